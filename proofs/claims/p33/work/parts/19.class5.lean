theorem kN_X5_58 {args : Array Value} {s : State} (hN : zNw s) : (Cond.fieldLinkNest RX5 58 "NestedCodes$State" "dimension" "I" "NestedCodes").before args s = true := va_Nw.use (w := Cond.fieldLinkNest RX5 58 "NestedCodes$State" "dimension" "I" "NestedCodes") rfl (show va_Nw (Cond.fieldLinkNest RX5 58 "NestedCodes$State" "dimension" "I" "NestedCodes") s from hN.1 ("NestedCodes", 58, "NestedCodes$State", "dimension", "I", "NestedCodes") (by decide +kernel))
theorem kN_X5_81 {args : Array Value} {s : State} (hN : zNw s) : (Cond.fieldLinkNest RX5 81 "NestedCodes$History" "size" "I" "NestedCodes").before args s = true := va_Nw.use (w := Cond.fieldLinkNest RX5 81 "NestedCodes$History" "size" "I" "NestedCodes") rfl (show va_Nw (Cond.fieldLinkNest RX5 81 "NestedCodes$History" "size" "I" "NestedCodes") s from hN.1 ("NestedCodes", 81, "NestedCodes$History", "size", "I", "NestedCodes") (by decide +kernel))
theorem kM_X5_173 {s : State} (hN : zNw s) : va_Nw (Cond.methodLinkNest RX5 173 yX3_keptBlocks "NestedCodes") s := show va_Nw (Cond.methodLinkNest RX5 173 yX3_keptBlocks "NestedCodes") s from hN.2 ("NestedCodes", 173, yX3_keptBlocks, "NestedCodes") (by decide +kernel)
theorem qX5_count_Cond_fieldLink_RX5_10_NestedCodes_state_LNestedCodes_State_ : Cond.fieldLink RX5 10 "NestedCodes" "state" "LNestedCodes$State;" ∈ wsX5_count := by decide +kernel
theorem qX5_count_inX5 : ∀ w ∈ wsX50, w ∈ wsX5_count := by decide +kernel
theorem qX5_count_inX4 : ∀ w ∈ wsX40, w ∈ wsX5_count := by decide +kernel
theorem qX5_count_Cond_initialized_RX4 : Cond.initialized RX4 ∈ wsX5_count := by decide +kernel
theorem qX5_count_Cond_instanceMethod_yX4_outerDistance : Cond.instanceMethod yX4_outerDistance ∈ wsX5_count := by decide +kernel
theorem qX5_count_Cond_selects_RX4_yX4_outerDistance_yX4_outerDistance : Cond.selects RX4 yX4_outerDistance yX4_outerDistance ∈ wsX5_count := by decide +kernel
theorem qX5_count_Cond_fieldLink_RX5_26_NestedCodes_inner_LNestedCodes_InnerCode_ : Cond.fieldLink RX5 26 "NestedCodes" "inner" "LNestedCodes$InnerCode;" ∈ wsX5_count := by decide +kernel
theorem qX5_count_inX1 : ∀ w ∈ wsX10, w ∈ wsX5_count := by decide +kernel
theorem qX5_count_Cond_fieldLink_RX5_48_NestedCodes_waitingCount_I_ : Cond.fieldLink RX5 48 "NestedCodes" "waitingCount" "I" ∈ wsX5_count := by decide +kernel
theorem qX5_count_Cond_fieldLink_RX5_19_NestedCodes_history_LNestedCodes_History_ : Cond.fieldLink RX5 19 "NestedCodes" "history" "LNestedCodes$History;" ∈ wsX5_count := by decide +kernel
theorem qX5_count_inX0 : ∀ w ∈ wsX00, w ∈ wsX5_count := by decide +kernel
set_option maxHeartbeats 4000000 in
set_option maxRecDepth 100000 in
theorem c_X5_count (l : Launch) (D : va_G) (Y : Nat → ClassId) (A : Nat → Nat) (B : Nat → Nat) (σ : Nat → Nat) (hn : Nat) (h : Nat → Nat → Nat) (r0 : Nat → Nat) (r1 : Nat → Nat) (r2 : Nat → Nat) (r3 : Nat → Nat) (r4 : Nat → Nat) (wt : Nat → Nat) (wn : Nat) (x : Int32)  (kσ : zWF σ) (kr : zCon σ r0 r1 r2 r3 r4) : Met l yX5_count wsX5_count ({ frames := 3, cells := 0, slots := 0, locals := 67 } : Room) (va_Pc [.ref (A 0), .int (x)] (zB D Y (CX Y A B σ hn h (wdS σ) (ddS σ) r0 r1 r2 r3 r4 (σ 0) (pak (itC (wdS σ) σ) (σ 0)) (mkP (fun k9 => decide (k9 < σ 0))) wt wn))) (zR (.int (countV σ wn hn (x).toInt))) 0 0 (fun _ => False) := by
  refine zr_of (cc := cX5_count) (maxL := 2) (ret := (some .int)) (by decide) rfl (Nat.le_of_ble_eq_true rfl) ?_
  intro p e s m below meth c R args Q hR hx hb hml hr hlk hown hts hK hN hP hQ ls hl
  have hown : s.vm.findClass RX5 = some m.cls := hown
  have hl : lv_has ls 2 [(0, .ref (A 0)), (1, .int (x))] := hl
  have kw := kσ
  obtain ⟨n3, n12, d1, d3, dn, b4, b10, gl, lm, sn, wl, wnz⟩ := kw
  have pb := zp_b b10
  have pk9 := zp_k d3
  have hpak : pak (itC (wdS σ) σ) (σ 0) < 281474976710656 := Nat.lt_of_lt_of_le (pak_lt (fun j _ => itC_lt _ _ j)) (show 2 ^ (4 * σ 0) ≤ 2 ^ 48 from Nat.pow_le_pow_right (by decide) (by omega))
  have hbar := barS_le kσ
  refine lv_iload_n hx hb dX5_count_0 rfl (lv_at hl 1 rfl) ?_
  have hsw1 : (x).toInt < 0 ∨ (x).toInt = 0 ∨ (x).toInt = 1 ∨ (x).toInt = 2 ∨ (x).toInt = 3 ∨ (x).toInt = 4 ∨ (x).toInt = 5 ∨ (x).toInt = 6 ∨ (x).toInt = 7 ∨ (x).toInt = 8 ∨ 8 < (x).toInt := by omega
  rcases hsw1 with c1 | c1 | c1 | c1 | c1 | c1 | c1 | c1 | c1 | c1 | c1
  · refine lv_tableOut (tgt := 115) hx hb dX5_count_1 (by omega) (by decide) ?_
    refine lv_sipush (v := (-1001)) hx hb dX5_count_115 (by decide) ?_
    exact zr_i hx hb hr hlk hQ dX5_count_118 (by unfold countV; rw [if_neg (by omega), if_neg (by omega), if_neg (by omega), if_neg (by omega), if_neg (by omega), if_neg (by omega), if_neg (by omega), if_neg (by omega), if_neg (by omega)])
  · refine lv_tableIn (off := 51) (tgt := 52) hx hb dX5_count_1 (by omega) (by omega) (by rw [c1]; rfl) (by decide) ?_
    refine lv_aload_n hx hb dX5_count_52 rfl (lv_at hl 0 rfl) ?_
    refine va_get (D := D) (ci := 5) (v := .ref (A 1)) (C := RX5) (T := TX5) (N := 7) hx hb hts qX5_count_inX5 hown hK hP 0 rfl rfl 0 (by decide) (hts _ qX5_count_Cond_fieldLink_RX5_10_NestedCodes_state_LNestedCodes_State_) (fun _ h9 => h9) rfl dX5_count_53 ?_
    refine va_getN (D := D) (ci := 4) (v := .int (nI (σ 0))) (C := RX4) (T := TX4) (N := 7) hx hb hts qX5_count_inX4 hown hK hP 1 rfl rfl 0 (by decide) (kN_X5_55 hN) (fun _ h9 => h9) rfl dX5_count_56 ?_
    exact zr_i hx hb hr hlk hQ dX5_count_59 (by rw [c1]; rfl)
  · refine lv_tableIn (off := 59) (tgt := 60) hx hb dX5_count_1 (by omega) (by omega) (by rw [c1]; rfl) (by decide) ?_
    refine lv_aload_n hx hb dX5_count_60 rfl (lv_at hl 0 rfl) ?_
    refine va_get (D := D) (ci := 5) (v := .ref (A 1)) (C := RX5) (T := TX5) (N := 7) hx hb hts qX5_count_inX5 hown hK hP 0 rfl rfl 0 (by decide) (hts _ qX5_count_Cond_fieldLink_RX5_10_NestedCodes_state_LNestedCodes_State_) (fun _ h9 => h9) rfl dX5_count_61 ?_
    refine va_getN (D := D) (ci := 4) (v := .int (nI (σ 1))) (C := RX4) (T := TX4) (N := 7) hx hb hts qX5_count_inX4 hown hK hP 1 rfl rfl 1 (by decide) (kN_X5_58 hN) (fun _ h9 => h9) rfl dX5_count_64 ?_
    exact zr_i hx hb hr hlk hQ dX5_count_67 (by rw [c1]; rfl)
  · refine lv_tableIn (off := 67) (tgt := 68) hx hb dX5_count_1 (by omega) (by omega) (by rw [c1]; rfl) (by decide) ?_
    refine lv_aload_n hx hb dX5_count_68 rfl (lv_at hl 0 rfl) ?_
    refine va_get (D := D) (ci := 5) (v := .ref (A 1)) (C := RX5) (T := TX5) (N := 7) hx hb hts qX5_count_inX5 hown hK hP 0 rfl rfl 0 (by decide) (hts _ qX5_count_Cond_fieldLink_RX5_10_NestedCodes_state_LNestedCodes_State_) (fun _ h9 => h9) rfl dX5_count_69 ?_
    refine zc_r (va_runVN (C := RX4) (As := []) (rest := []) ⟨hx, hb, hml, hown, hts⟩ (c_X4_outerDistance l D Y A B σ hn h (wdS σ) (ddS σ) r0 r1 r2 r3 r4 (σ 0) (pak (itC (wdS σ) σ) (σ 0)) (mkP (fun k9 => decide (k9 < σ 0))) wt wn  kσ) ⟨(va_cnB 0 hts gX5_count_X4_outerDistance_n87 rfl rfl rfl (kM_X5_87 hN) (hts _ qX5_count_Cond_initialized_RX4) (by decide +kernel) (by rw [hR]; exact ⟨Nat.le_of_ble_eq_true rfl, Nat.le_of_ble_eq_true rfl⟩)), (hts _ qX5_count_Cond_instanceMethod_yX4_outerDistance), (hts _ qX5_count_Cond_selects_RX4_yX4_outerDistance_yX4_outerDistance)⟩ ⟨zB_blind, va_recv hK hP (ci := 4) (q0 := 1) rfl rfl, zp_r hP hK hN⟩ rfl rfl hl.1 rfl (lv_room (Nat.le_of_ble_eq_true rfl)) dX5_count_72 ⟨Nat.zero_le _, Nat.zero_le _⟩).run ?_
    exact zr_i hx hb hr hlk hQ dX5_count_75 (by rw [c1]; rfl)
  · refine lv_tableIn (off := 75) (tgt := 76) hx hb dX5_count_1 (by omega) (by omega) (by rw [c1]; rfl) (by decide) ?_
    refine lv_aload_n hx hb dX5_count_76 rfl (lv_at hl 0 rfl) ?_
    refine va_get (D := D) (ci := 5) (v := .ref (A 1)) (C := RX5) (T := TX5) (N := 7) hx hb hts qX5_count_inX5 hown hK hP 0 rfl rfl 0 (by decide) (hts _ qX5_count_Cond_fieldLink_RX5_10_NestedCodes_state_LNestedCodes_State_) (fun _ h9 => h9) rfl dX5_count_77 ?_
    refine va_getN (D := D) (ci := 4) (v := .int (nI (σ 2))) (C := RX4) (T := TX4) (N := 7) hx hb hts qX5_count_inX4 hown hK hP 1 rfl rfl 2 (by decide) (kN_X5_72 hN) (fun _ h9 => h9) rfl dX5_count_80 ?_
    exact zr_i hx hb hr hlk hQ dX5_count_83 (by rw [c1]; rfl)
  · refine lv_tableIn (off := 83) (tgt := 84) hx hb dX5_count_1 (by omega) (by omega) (by rw [c1]; rfl) (by decide) ?_
    refine lv_aload_n hx hb dX5_count_84 rfl (lv_at hl 0 rfl) ?_
    refine va_get (D := D) (ci := 5) (v := .ref (A 7)) (C := RX5) (T := TX5) (N := 7) hx hb hts qX5_count_inX5 hown hK hP 0 rfl rfl 2 (by decide) (hts _ qX5_count_Cond_fieldLink_RX5_26_NestedCodes_inner_LNestedCodes_InnerCode_) (fun _ h9 => h9) rfl dX5_count_85 ?_
    refine va_getN (D := D) (ci := 1) (v := .int (nI (ddS σ))) (C := RX1) (T := TX1) (N := 2) hx hb hts qX5_count_inX1 hown hK hP 7 rfl rfl 1 (by decide) (kN_X5_78 hN) (fun _ h9 => h9) rfl dX5_count_88 ?_
    exact zr_i hx hb hr hlk hQ dX5_count_91 (by rw [c1]; rfl)
  · refine lv_tableIn (off := 91) (tgt := 92) hx hb dX5_count_1 (by omega) (by omega) (by rw [c1]; rfl) (by decide) ?_
    refine lv_aload_n hx hb dX5_count_92 rfl (lv_at hl 0 rfl) ?_
    refine va_get (D := D) (ci := 5) (v := .int (nI wn)) (C := RX5) (T := TX5) (N := 7) hx hb hts qX5_count_inX5 hown hK hP 0 rfl rfl 6 (by decide) (hts _ qX5_count_Cond_fieldLink_RX5_48_NestedCodes_waitingCount_I_) (fun _ h9 => h9) rfl dX5_count_93 ?_
    exact zr_i hx hb hr hlk hQ dX5_count_96 (by rw [c1]; rfl)
  · refine lv_tableIn (off := 96) (tgt := 97) hx hb dX5_count_1 (by omega) (by omega) (by rw [c1]; rfl) (by decide) ?_
    refine lv_aload_n hx hb dX5_count_97 rfl (lv_at hl 0 rfl) ?_
    refine va_get (D := D) (ci := 5) (v := .ref (A 5)) (C := RX5) (T := TX5) (N := 7) hx hb hts qX5_count_inX5 hown hK hP 0 rfl rfl 1 (by decide) (hts _ qX5_count_Cond_fieldLink_RX5_19_NestedCodes_history_LNestedCodes_History_) (fun _ h9 => h9) rfl dX5_count_98 ?_
    refine va_getN (D := D) (ci := 0) (v := .int (nI hn)) (C := RX0) (T := TX0) (N := 2) hx hb hts qX5_count_inX0 hown hK hP 5 rfl rfl 1 (by decide) (kN_X5_81 hN) (fun _ h9 => h9) rfl dX5_count_101 ?_
    exact zr_i hx hb hr hlk hQ dX5_count_104 (by rw [c1]; rfl)
  · refine lv_tableIn (off := 104) (tgt := 105) hx hb dX5_count_1 (by omega) (by omega) (by rw [c1]; rfl) (by decide) ?_
    refine lv_aload_n hx hb dX5_count_105 rfl (lv_at hl 0 rfl) ?_
    refine zc_r (va_runV (As := []) (rest := []) ⟨hx, hb, hml, hown, hts⟩ (c_X5_lostBlocks l D Y A B σ hn h (wdS σ) (ddS σ) r0 r1 r2 r3 r4 (σ 0) (pak (itC (wdS σ) σ) (σ 0)) (mkP (fun k9 => decide (k9 < σ 0))) wt wn  n12) (cwV 0 hts gX5_count_X5_lostBlocks rfl rfl rfl (by decide +kernel) (by rw [hR]; exact ⟨Nat.le_of_ble_eq_true rfl, Nat.le_of_ble_eq_true rfl⟩)) ⟨zB_blind, va_recv hK hP (ci := 5) (q0 := 0) rfl rfl, zp_r hP hK hN⟩ rfl rfl hl.1 rfl (lv_room (Nat.le_of_ble_eq_true rfl)) dX5_count_106 ⟨Nat.zero_le _, Nat.zero_le _⟩).run ?_
    have hl106 := lostN_le σ (σ 0)
    exact zr_i hx hb hr hlk hQ dX5_count_109 (by rw [c1]; rfl)
  · refine lv_tableIn (off := 109) (tgt := 110) hx hb dX5_count_1 (by omega) (by omega) (by rw [c1]; rfl) (by decide) ?_
    refine lv_aload_n hx hb dX5_count_110 rfl (lv_at hl 0 rfl) ?_
    refine zc_r (va_runV (As := []) (rest := []) ⟨hx, hb, hml, hown, hts⟩ (c_X5_wrongBits l D Y A B σ hn h (wdS σ) (ddS σ) r0 r1 r2 r3 r4 (σ 0) (pak (itC (wdS σ) σ) (σ 0)) (mkP (fun k9 => decide (k9 < σ 0))) wt wn  kσ (fun j _ => zwd_1024 kσ j)) (cwV 0 hts gX5_count_X5_wrongBits rfl rfl rfl (by decide +kernel) (by rw [hR]; exact ⟨Nat.le_of_ble_eq_true rfl, Nat.le_of_ble_eq_true rfl⟩)) ⟨zB_blind, va_recv hK hP (ci := 5) (q0 := 0) rfl rfl, zp_r hP hK hN⟩ rfl rfl hl.1 rfl (lv_room (Nat.le_of_ble_eq_true rfl)) dX5_count_111 ⟨Nat.zero_le _, Nat.zero_le _⟩).run ?_
    have hw111 := wrN_le (wdS σ) σ (σ 0)
    exact zr_i hx hb hr hlk hQ dX5_count_114 (by rw [c1]; rfl)
  · refine lv_tableOut (tgt := 115) hx hb dX5_count_1 (by omega) (by decide) ?_
    refine lv_sipush (v := (-1001)) hx hb dX5_count_115 (by decide) ?_
    exact zr_i hx hb hr hlk hQ dX5_count_118 (by unfold countV; rw [if_neg (by omega), if_neg (by omega), if_neg (by omega), if_neg (by omega), if_neg (by omega), if_neg (by omega), if_neg (by omega), if_neg (by omega), if_neg (by omega)])



theorem qX5_received_Cond_fieldLink_RX5_10_NestedCodes_state_LNestedCodes_State_ : Cond.fieldLink RX5 10 "NestedCodes" "state" "LNestedCodes$State;" ∈ wsX5_received := by decide +kernel
theorem qX5_received_inX5 : ∀ w ∈ wsX50, w ∈ wsX5_received := by decide +kernel
theorem qX5_received_inX4 : ∀ w ∈ wsX40, w ∈ wsX5_received := by decide +kernel
set_option maxHeartbeats 4000000 in
set_option maxRecDepth 100000 in
theorem c_X5_received (l : Launch) (D : va_G) (Y : Nat → ClassId) (A : Nat → Nat) (B : Nat → Nat) (σ : Nat → Nat) (hn : Nat) (h : Nat → Nat → Nat) (r0 : Nat → Nat) (r1 : Nat → Nat) (r2 : Nat → Nat) (r3 : Nat → Nat) (r4 : Nat → Nat) (wt : Nat → Nat) (wn : Nat) (y : Int32)  (kσ : zWF σ) (kr : zCon σ r0 r1 r2 r3 r4) : Met l yX5_received wsX5_received ({ frames := 1, cells := 0, slots := 0, locals := 21 } : Room) (va_Pc [.ref (A 0), .int (y)] (zB D Y (CX Y A B σ hn h (wdS σ) (ddS σ) r0 r1 r2 r3 r4 (σ 0) (pak (itC (wdS σ) σ) (σ 0)) (mkP (fun k9 => decide (k9 < σ 0))) wt wn))) (zR (.int (recvV σ (y).toInt))) 0 0 (fun _ => False) := by
  refine zr_of (cc := cX5_received) (maxL := 2) (ret := (some .int)) (by decide) rfl (Nat.le_of_ble_eq_true rfl) ?_
  intro p e s m below meth c R args Q hR hx hb hml hr hlk hown hts hK hN hP hQ ls hl
  have hown : s.vm.findClass RX5 = some m.cls := hown
  have hl : lv_has ls 2 [(0, .ref (A 0)), (1, .int (y))] := hl
  have kw := kσ
  obtain ⟨n3, n12, d1, d3, dn, b4, b10, gl, lm, sn, wl, wnz⟩ := kw
  have pb := zp_b b10
  have pk9 := zp_k d3
  have hpak : pak (itC (wdS σ) σ) (σ 0) < 281474976710656 := Nat.lt_of_lt_of_le (pak_lt (fun j _ => itC_lt _ _ j)) (show 2 ^ (4 * σ 0) ≤ 2 ^ 48 from Nat.pow_le_pow_right (by decide) (by omega))
  have hbar := barS_le kσ
  refine lv_aload_n hx hb dX5_received_0 rfl (lv_at hl 0 rfl) ?_
  refine lv_iload_n hx hb dX5_received_1 rfl (lv_at hl 1 rfl) ?_
  refine zc_r (va_runV (As := [.int (y)]) (rest := []) ⟨hx, hb, hml, hown, hts⟩ (c_X5_isBlock l D Y A B σ hn h (wdS σ) (ddS σ) r0 r1 r2 r3 r4 (σ 0) (pak (itC (wdS σ) σ) (σ 0)) (mkP (fun k9 => decide (k9 < σ 0))) wt wn y n12) (cwV 1 hts gX5_received_X5_isBlock rfl rfl rfl (by decide +kernel) (by rw [hR]; exact ⟨Nat.le_of_ble_eq_true rfl, Nat.le_of_ble_eq_true rfl⟩)) ⟨zB_blind, va_recv hK hP (ci := 5) (q0 := 0) rfl rfl, zp_r hP hK hN⟩ rfl rfl hl.1 rfl (lv_room (Nat.le_of_ble_eq_true rfl)) dX5_received_2 ⟨Nat.zero_le _, Nat.zero_le _⟩).run ?_
  refine zb_if_ne (tgt := 12)  hx hb dX5_received_5 (by decide)  (fun c5 => ?_) (fun c5 => ?_)
  · obtain ⟨j9, hj9, rfl⟩ := zNat (x := y) (N := σ 0) (by omega) (by omega)
    have hz := zL_01 (σ 7) j9
    refine lv_aload_n hx hb dX5_received_12 rfl (lv_at hl 0 rfl) ?_
    refine va_get (D := D) (ci := 5) (v := .ref (A 1)) (C := RX5) (T := TX5) (N := 7) hx hb hts qX5_received_inX5 hown hK hP 0 rfl rfl 0 (by decide) (hts _ qX5_received_Cond_fieldLink_RX5_10_NestedCodes_state_LNestedCodes_State_) (fun _ h9 => h9) rfl dX5_received_13 ?_
    refine va_getN (D := D) (ci := 4) (v := .ref (A 4)) (C := RX4) (T := TX4) (N := 7) hx hb hts qX5_received_inX4 hown hK hP 1 rfl rfl 5 (by decide) (kN_X5_138 hN) (fun _ h9 => h9) rfl dX5_received_16 ?_
    refine lv_iload_n hx hb dX5_received_19 rfl (lv_at hl 1 rfl) ?_
    refine za_z hx hb hK hP 4 (f := fun k9 => nI (zL (σ 7) k9)) (v := (nI (zL (σ 7) j9))) rfl (by omega) (by decide) dX5_received_20 (rfl) ?_
    refine zn_if_eq (tgt := 30)  hx hb dX5_received_21 (by decide) (by omega) (fun c21 => ?_) (fun c21 => ?_)
    · refine lv_aload_n hx hb dX5_received_30 rfl (lv_at hl 0 rfl) ?_
      refine va_get (D := D) (ci := 5) (v := .ref (A 1)) (C := RX5) (T := TX5) (N := 7) hx hb hts qX5_received_inX5 hown hK hP 0 rfl rfl 0 (by decide) (hts _ qX5_received_Cond_fieldLink_RX5_10_NestedCodes_state_LNestedCodes_State_) (fun _ h9 => h9) rfl dX5_received_31 ?_
      refine va_getN (D := D) (ci := 4) (v := .ref (A 3)) (C := RX4) (T := TX4) (N := 7) hx hb hts qX5_received_inX4 hown hK hP 1 rfl rfl 4 (by decide) (kN_X5_128 hN) (fun _ h9 => h9) rfl dX5_received_34 ?_
      refine lv_iload_n hx hb dX5_received_37 rfl (lv_at hl 1 rfl) ?_
      refine za_i hx hb hK hP 3 (f := fun k9 => nI (σ (9 + k9))) (v := (nI (σ (9 + j9)))) rfl (by omega) (by decide) dX5_received_38 (rfl) ?_
      exact zr_i hx hb hr hlk hQ dX5_received_39 (by unfold recvV; rw [if_pos c5, zToI (by omega)]; rw [if_neg (by omega)])
    · refine lv_sipush (v := (-1004)) hx hb dX5_received_24 (by decide) ?_
      refine lv_goto (tgt := 39) hx hb dX5_received_27 (by decide) ?_
      exact zr_i hx hb hr hlk hQ dX5_received_39 (by unfold recvV; rw [if_pos c5, zToI (by omega)]; rw [if_pos (by omega)])
  · refine lv_sipush (v := (-1001)) hx hb dX5_received_8 (by decide) ?_
    exact zr_i hx hb hr hlk hQ dX5_received_11 (by unfold recvV; rw [if_neg c5])
theorem qX5_sent_Cond_fieldLink_RX5_10_NestedCodes_state_LNestedCodes_State_ : Cond.fieldLink RX5 10 "NestedCodes" "state" "LNestedCodes$State;" ∈ wsX5_sent := by decide +kernel
theorem qX5_sent_inX5 : ∀ w ∈ wsX50, w ∈ wsX5_sent := by decide +kernel
theorem qX5_sent_inX4 : ∀ w ∈ wsX40, w ∈ wsX5_sent := by decide +kernel
set_option maxHeartbeats 4000000 in
set_option maxRecDepth 100000 in
theorem c_X5_sent (l : Launch) (D : va_G) (Y : Nat → ClassId) (A : Nat → Nat) (B : Nat → Nat) (σ : Nat → Nat) (hn : Nat) (h : Nat → Nat → Nat) (r0 : Nat → Nat) (r1 : Nat → Nat) (r2 : Nat → Nat) (r3 : Nat → Nat) (r4 : Nat → Nat) (wt : Nat → Nat) (wn : Nat)   (kσ : zWF σ) (kr : zCon σ r0 r1 r2 r3 r4) : Met l yX5_sent wsX5_sent ({ frames := 0, cells := 0, slots := 0, locals := 0 } : Room) (va_Pc [.ref (A 0)] (zB D Y (CX Y A B σ hn h (wdS σ) (ddS σ) r0 r1 r2 r3 r4 (σ 0) (pak (itC (wdS σ) σ) (σ 0)) (mkP (fun k9 => decide (k9 < σ 0))) wt wn))) (zR (.int (nI (σ 8)))) 0 0 (fun _ => False) := by
  refine zr_of (cc := cX5_sent) (maxL := 1) (ret := (some .int)) (by decide) rfl (Nat.le_of_ble_eq_true rfl) ?_
  intro p e s m below meth c R args Q hR hx hb hml hr hlk hown hts hK hN hP hQ ls hl
  have hown : s.vm.findClass RX5 = some m.cls := hown
  have hl : lv_has ls 1 [(0, .ref (A 0))] := hl
  have kw := kσ
  obtain ⟨n3, n12, d1, d3, dn, b4, b10, gl, lm, sn, wl, wnz⟩ := kw
  have pb := zp_b b10
  have pk9 := zp_k d3
  have hpak : pak (itC (wdS σ) σ) (σ 0) < 281474976710656 := Nat.lt_of_lt_of_le (pak_lt (fun j _ => itC_lt _ _ j)) (show 2 ^ (4 * σ 0) ≤ 2 ^ 48 from Nat.pow_le_pow_right (by decide) (by omega))
  have hbar := barS_le kσ
  refine lv_aload_n hx hb dX5_sent_0 rfl (lv_at hl 0 rfl) ?_
  refine va_get (D := D) (ci := 5) (v := .ref (A 1)) (C := RX5) (T := TX5) (N := 7) hx hb hts qX5_sent_inX5 hown hK hP 0 rfl rfl 0 (by decide) (hts _ qX5_sent_Cond_fieldLink_RX5_10_NestedCodes_state_LNestedCodes_State_) (fun _ h9 => h9) rfl dX5_sent_1 ?_
  refine va_getN (D := D) (ci := 4) (v := .int (nI (σ 8))) (C := RX4) (T := TX4) (N := 7) hx hb hts qX5_sent_inX4 hown hK hP 1 rfl rfl 6 (by decide) (kN_X5_122 hN) (fun _ h9 => h9) rfl dX5_sent_4 ?_
  exact zr_i hx hb hr hlk hQ dX5_sent_7 (rfl)



theorem qX5_trial_Cond_fieldLink_RX5_10_NestedCodes_state_LNestedCodes_State_ : Cond.fieldLink RX5 10 "NestedCodes" "state" "LNestedCodes$State;" ∈ wsX5_trial := by decide +kernel
theorem qX5_trial_inX5 : ∀ w ∈ wsX50, w ∈ wsX5_trial := by decide +kernel
theorem qX5_trial_Cond_initialized_RX4 : Cond.initialized RX4 ∈ wsX5_trial := by decide +kernel
theorem qX5_trial_Cond_instanceMethod_yX4_outerDistance : Cond.instanceMethod yX4_outerDistance ∈ wsX5_trial := by decide +kernel
theorem qX5_trial_Cond_selects_RX4_yX4_outerDistance_yX4_outerDistance : Cond.selects RX4 yX4_outerDistance yX4_outerDistance ∈ wsX5_trial := by decide +kernel
theorem qX5_trial_Cond_fieldLink_RX5_40_NestedCodes_reading_LNestedCodes_Reading_ : Cond.fieldLink RX5 40 "NestedCodes" "reading" "LNestedCodes$Reading;" ∈ wsX5_trial := by decide +kernel
theorem qX5_trial_Cond_initialized_RX3 : Cond.initialized RX3 ∈ wsX5_trial := by decide +kernel
theorem qX5_trial_Cond_instanceMethod_yX3_keptBlocks : Cond.instanceMethod yX3_keptBlocks ∈ wsX5_trial := by decide +kernel
theorem qX5_trial_Cond_selects_RX3_yX3_keptBlocks_yX3_keptBlocks : Cond.selects RX3 yX3_keptBlocks yX3_keptBlocks ∈ wsX5_trial := by decide +kernel
theorem qX5_trial_Cond_instanceMethod_yX4_messages : Cond.instanceMethod yX4_messages ∈ wsX5_trial := by decide +kernel
theorem qX5_trial_Cond_selects_RX4_yX4_messages_yX4_messages : Cond.selects RX4 yX4_messages yX4_messages ∈ wsX5_trial := by decide +kernel
theorem qX5_trial_Cond_fieldLink_RX5_33_NestedCodes_outer_LNestedCodes_OuterCode_ : Cond.fieldLink RX5 33 "NestedCodes" "outer" "LNestedCodes$OuterCode;" ∈ wsX5_trial := by decide +kernel
theorem qX5_trial_Cond_initialized_RX2 : Cond.initialized RX2 ∈ wsX5_trial := by decide +kernel
theorem qX5_trial_Cond_instanceMethod_yX2_codeword : Cond.instanceMethod yX2_codeword ∈ wsX5_trial := by decide +kernel
theorem qX5_trial_Cond_selects_RX2_yX2_codeword_yX2_codeword : Cond.selects RX2 yX2_codeword yX2_codeword ∈ wsX5_trial := by decide +kernel
set_option maxHeartbeats 4000000 in
set_option maxRecDepth 100000 in
theorem c_X5_trial (l : Launch) (D : va_G) (Y : Nat → ClassId) (A : Nat → Nat) (B : Nat → Nat) (σ : Nat → Nat) (hn : Nat) (h : Nat → Nat → Nat) (r0 : Nat → Nat) (r1 : Nat → Nat) (r2 : Nat → Nat) (r3 : Nat → Nat) (r4 : Nat → Nat) (wt : Nat → Nat) (wn : Nat) (x : Int32)  (kσ : zWF σ) (kr : zCon σ r0 r1 r2 r3 r4) : Met l yX5_trial wsX5_trial ({ frames := 3, cells := 0, slots := 0, locals := 71 } : Room) (va_Pc [.ref (A 0), .int (x)] (zB D Y (CX Y A B σ hn h (wdS σ) (ddS σ) r0 r1 r2 r3 r4 (σ 0) (pak (itC (wdS σ) σ) (σ 0)) (mkP (fun k9 => decide (k9 < σ 0))) wt wn))) (zR (.int (trialV σ (x).toInt))) 0 0 (fun _ => False) := by
  refine zr_of (cc := cX5_trial) (maxL := 6) (ret := (some .int)) (by decide) rfl (Nat.le_of_ble_eq_true rfl) ?_
  intro p e s m below meth c R args Q hR hx hb hml hr hlk hown hts hK hN hP hQ ls hl
  have hown : s.vm.findClass RX5 = some m.cls := hown
  have hl : lv_has ls 6 [(0, .ref (A 0)), (1, .int (x))] := hl
  have kw := kσ
  obtain ⟨n3, n12, d1, d3, dn, b4, b10, gl, lm, sn, wl, wnz⟩ := kw
  have pb := zp_b b10
  have pk9 := zp_k d3
  have hpak : pak (itC (wdS σ) σ) (σ 0) < 281474976710656 := Nat.lt_of_lt_of_le (pak_lt (fun j _ => itC_lt _ _ j)) (show 2 ^ (4 * σ 0) ≤ 2 ^ 48 from Nat.pow_le_pow_right (by decide) (by omega))
  have hbar := barS_le kσ
  refine lv_iload_n hx hb dX5_trial_0 rfl (lv_at hl 1 rfl) ?_
  refine zz_if_lt (tgt := 15) (a := (x).toInt) hx hb dX5_trial_1 (by decide) (rfl) (fun c1 => ?_) (fun c1 => ?_)
  · refine lv_sipush (v := (-1001)) hx hb dX5_trial_15 (by decide) ?_
    exact zr_i hx hb hr hlk hQ dX5_trial_18 (by unfold trialV; rw [if_neg (by omega)])
  · refine lv_iload_n hx hb dX5_trial_4 rfl (lv_at hl 1 rfl) ?_
    refine lv_aload_n hx hb dX5_trial_5 rfl (lv_at hl 0 rfl) ?_
    refine va_get (D := D) (ci := 5) (v := .ref (A 1)) (C := RX5) (T := TX5) (N := 7) hx hb hts qX5_trial_inX5 hown hK hP 0 rfl rfl 0 (by decide) (hts _ qX5_trial_Cond_fieldLink_RX5_10_NestedCodes_state_LNestedCodes_State_) (fun _ h9 => h9) rfl dX5_trial_6 ?_
    refine zc_r (va_runVN (C := RX4) (As := []) (rest := [.int (x)]) ⟨hx, hb, hml, hown, hts⟩ (c_X4_outerDistance l D Y A B σ hn h (wdS σ) (ddS σ) r0 r1 r2 r3 r4 (σ 0) (pak (itC (wdS σ) σ) (σ 0)) (mkP (fun k9 => decide (k9 < σ 0))) wt wn  kσ) ⟨(va_cnB 0 hts gX5_trial_X4_outerDistance_n87 rfl rfl rfl (kM_X5_87 hN) (hts _ qX5_trial_Cond_initialized_RX4) (by decide +kernel) (by rw [hR]; exact ⟨Nat.le_of_ble_eq_true rfl, Nat.le_of_ble_eq_true rfl⟩)), (hts _ qX5_trial_Cond_instanceMethod_yX4_outerDistance), (hts _ qX5_trial_Cond_selects_RX4_yX4_outerDistance_yX4_outerDistance)⟩ ⟨zB_blind, va_recv hK hP (ci := 4) (q0 := 1) rfl rfl, zp_r hP hK hN⟩ rfl rfl hl.1 rfl (lv_room (Nat.le_of_ble_eq_true rfl)) dX5_trial_9 ⟨Nat.zero_le _, Nat.zero_le _⟩).run ?_
    refine zz_icmp_lt (tgt := 19) (a := (x).toInt) (b := (((σ 0 - σ 1 + 1 : Nat)) : Int)) hx hb dX5_trial_12 (by decide) (rfl) (zt_n (by omega)) (fun c12 => ?_) (fun c12 => ?_)
    · obtain ⟨j9, hj9, rfl⟩ := zNat (x := x) (N := σ 0 - σ 1 + 1) (by omega) (by omega)
      refine lv_aload_n hx hb dX5_trial_19 rfl (lv_at hl 0 rfl) ?_
      refine va_get (D := D) (ci := 5) (v := .ref (A 11)) (C := RX5) (T := TX5) (N := 7) hx hb hts qX5_trial_inX5 hown hK hP 0 rfl rfl 4 (by decide) (hts _ qX5_trial_Cond_fieldLink_RX5_40_NestedCodes_reading_LNestedCodes_Reading_) (fun _ h9 => h9) rfl dX5_trial_20 ?_
      refine lv_iload_n hx hb dX5_trial_23 rfl (lv_at hl 1 rfl) ?_
      refine zc_r (va_runVN (C := RX3) (As := [.int (nI j9)]) (rest := []) ⟨hx, hb, hml, hown, hts⟩ (c_X3_keptBlocks l D Y A B σ hn h (wdS σ) (ddS σ) r0 r1 r2 r3 r4 (σ 0) (pak (itC (wdS σ) σ) (σ 0)) (mkP (fun k9 => decide (k9 < σ 0))) wt wn j9 (by omega) n12 (fun j hj => Nat.lt_of_lt_of_le (kr j hj).2.2.2.2.1 n12) rfl) ⟨(va_cnB 1 hts gX5_trial_X3_keptBlocks_n173 rfl rfl rfl (kM_X5_173 hN) (hts _ qX5_trial_Cond_initialized_RX3) (by decide +kernel) (by rw [hR]; exact ⟨Nat.le_of_ble_eq_true rfl, Nat.le_of_ble_eq_true rfl⟩)), (hts _ qX5_trial_Cond_instanceMethod_yX3_keptBlocks), (hts _ qX5_trial_Cond_selects_RX3_yX3_keptBlocks_yX3_keptBlocks)⟩ ⟨zB_blind, va_recv hK hP (ci := 3) (q0 := 11) rfl rfl, zp_r hP hK hN⟩ rfl rfl hl.1 rfl (lv_room (Nat.le_of_ble_eq_true rfl)) dX5_trial_24 ⟨Nat.zero_le _, Nat.zero_le _⟩).run ?_
      refine zt_l (v := (lN (mkP (kpB σ j9)))) (by rw [show min j9 (σ 0) = j9 from by omega]; exact congrArg lN (mkP_cong (fun j _ => kp_ok kr j9 (by omega) j))) ?_
      refine lv_lstore_n (lv' := [(2, .long (lN (mkP (kpB σ j9)))), (0, .ref (A 0)), (1, .int (nI j9))]) hx hb dX5_trial_27 rfl hl (by decide) rfl (fun ls hl => ?_)
      refine lv_aload_n hx hb dX5_trial_28 rfl (lv_at hl 1 rfl) ?_
      refine va_get (D := D) (ci := 5) (v := .ref (A 1)) (C := RX5) (T := TX5) (N := 7) hx hb hts qX5_trial_inX5 hown hK hP 0 rfl rfl 0 (by decide) (hts _ qX5_trial_Cond_fieldLink_RX5_10_NestedCodes_state_LNestedCodes_State_) (fun _ h9 => h9) rfl dX5_trial_29 ?_
      refine zc_r (va_runVN (C := RX4) (As := []) (rest := []) ⟨hx, hb, hml, hown, hts⟩ (c_X4_messages l D Y A B σ hn h (wdS σ) (ddS σ) r0 r1 r2 r3 r4 (σ 0) (pak (itC (wdS σ) σ) (σ 0)) (mkP (fun k9 => decide (k9 < σ 0))) wt wn  kσ) ⟨(va_cnB 0 hts gX5_trial_X4_messages_n176 rfl rfl rfl (kM_X5_176 hN) (hts _ qX5_trial_Cond_initialized_RX4) (by decide +kernel) (by rw [hR]; exact ⟨Nat.le_of_ble_eq_true rfl, Nat.le_of_ble_eq_true rfl⟩)), (hts _ qX5_trial_Cond_instanceMethod_yX4_messages), (hts _ qX5_trial_Cond_selects_RX4_yX4_messages_yX4_messages)⟩ ⟨zB_blind, va_recv hK hP (ci := 4) (q0 := 1) rfl rfl, zp_r hP hK hN⟩ rfl rfl hl.1 rfl (lv_room (Nat.le_of_ble_eq_true rfl)) dX5_trial_32 ⟨Nat.zero_le _, Nat.zero_le _⟩).run ?_
      refine lv_istore (lv' := [(4, .int (nI (2 ^ (4 * σ 1)))), (2, .long (lN (mkP (kpB σ j9)))), (0, .ref (A 0)), (1, .int (nI j9))]) hx hb dX5_trial_35 hl (by decide) rfl (fun ls hl => ?_)
      refine lv_iconst (v := (nI 0)) hx hb dX5_trial_37 (by decide) ?_
      refine lv_istore (lv' := [(5, .int (nI 0)), (4, .int (nI (2 ^ (4 * σ 1)))), (2, .long (lN (mkP (kpB σ j9)))), (0, .ref (A 0)), (1, .int (nI j9))]) hx hb dX5_trial_38 hl (by decide) rfl (fun ls hl => ?_)
      have L40 : ∀ (n9 : Nat) (i : Nat) (hi : i ≤ 2 ^ (4 * σ 1)) (hno : ∀ j, j < i → resB σ j9 j = false), 2 ^ (4 * σ 1) - i < n9 → ∀ ls : Array Slot, lv_has ls 6 [(5, .int (nI i)), (4, .int (nI (2 ^ (4 * σ 1)))), (2, .long (lN (mkP (kpB σ j9)))), (0, .ref (A 0)), (1, .int (nI j9))] → W p l e R s m args below meth c s.heap [] 0 0 Q (F0 m 40 ls []) := by
        intro n9
        induction n9 with
        | zero => intro i hi hno hn9; exact absurd hn9 (Nat.not_lt_zero _)
        | succ n9 ih9 =>
          have ih40 := ih9
          clear ih9
          intro i hi hno hn9 ls hl
          refine lv_iload hx hb dX5_trial_40 (lv_at hl 0 rfl) ?_
          refine lv_iload hx hb dX5_trial_42 (lv_at hl 1 rfl) ?_
          refine zn_icmp_ge (tgt := 74)  hx hb dX5_trial_44 (by decide) (by omega) (by omega) (fun c44 => ?_) (fun c44 => ?_)
          · obtain rfl : i = 2 ^ (4 * σ 1) := by omega
            refine lv_sipush (v := (-1004)) hx hb dX5_trial_74 (by decide) ?_
            exact zr_i hx hb hr hlk hQ dX5_trial_77 (by unfold trialV; rw [if_pos (by omega), zToI (by omega), show zfst (resB σ j9) (nMs σ) = nMs σ from zfst_no hno]; exact (if_neg (Nat.lt_irrefl _)).symm)
          · refine lv_aload_n hx hb dX5_trial_47 rfl (lv_at hl 3 rfl) ?_
            refine lv_aload_n hx hb dX5_trial_48 rfl (lv_at hl 3 rfl) ?_
            refine va_get (D := D) (ci := 5) (v := .ref (A 9)) (C := RX5) (T := TX5) (N := 7) hx hb hts qX5_trial_inX5 hown hK hP 0 rfl rfl 3 (by decide) (hts _ qX5_trial_Cond_fieldLink_RX5_33_NestedCodes_outer_LNestedCodes_OuterCode_) (fun _ h9 => h9) rfl dX5_trial_49 ?_
            refine lv_iload hx hb dX5_trial_52 (lv_at hl 0 rfl) ?_
            refine zc_r (va_runVN (C := RX2) (As := [.int (nI i)]) (rest := [.ref (A 0)]) ⟨hx, hb, hml, hown, hts⟩ (c_X2_codeword l D Y A B σ hn h (wdS σ) (ddS σ) r0 r1 r2 r3 r4 (σ 0) (pak (itC (wdS σ) σ) (σ 0)) (mkP (fun k9 => decide (k9 < σ 0))) wt wn i (by omega)) ⟨(va_cnB 1 hts gX5_trial_X2_codeword_n114 rfl rfl rfl (kM_X5_114 hN) (hts _ qX5_trial_Cond_initialized_RX2) (by decide +kernel) (by rw [hR]; exact ⟨Nat.le_of_ble_eq_true rfl, Nat.le_of_ble_eq_true rfl⟩)), (hts _ qX5_trial_Cond_instanceMethod_yX2_codeword), (hts _ qX5_trial_Cond_selects_RX2_yX2_codeword_yX2_codeword)⟩ ⟨zB_blind, va_recv hK hP (ci := 2) (q0 := 9) rfl rfl, zp_r hP hK hN⟩ rfl rfl hl.1 rfl (lv_room (Nat.le_of_ble_eq_true rfl)) dX5_trial_54 ⟨Nat.zero_le _, Nat.zero_le _⟩).run ?_
            refine lv_iload_n hx hb dX5_trial_57 rfl (lv_at hl 4 rfl) ?_
            refine lv_lload_n hx hb dX5_trial_58 rfl (lv_at hl 2 rfl) ?_
            refine zc_r (va_runV (As := [.long (lN (zcwP i)), .int (nI j9), .long (lN (mkP (kpB σ j9)))]) (rest := []) ⟨hx, hb, hml, hown, hts⟩ (c_X5_isResult l D Y A B σ hn h r0 r1 r2 r3 r4 wt wn (zcwP i) j9 (mkP (kpB σ j9)) i (kpB σ j9) kσ kr rfl (by omega) rfl (by omega)) (cwV 3 hts gX5_trial_X5_isResult rfl rfl rfl (by decide +kernel) (by rw [hR]; exact ⟨Nat.le_of_ble_eq_true rfl, Nat.le_of_ble_eq_true rfl⟩)) ⟨zB_blind, va_recv hK hP (ci := 5) (q0 := 0) rfl rfl, zp_r hP hK hN⟩ rfl rfl hl.1 rfl (lv_room (Nat.le_of_ble_eq_true rfl)) dX5_trial_59 ⟨Nat.zero_le _, Nat.zero_le _⟩).run ?_
            refine zb_if_eq (tgt := 68)  hx hb dX5_trial_62 (by decide)  (fun c62 => ?_) (fun c62 => ?_)
            · refine lv_iinc (v := (nI (i + 1))) (lv' := [(5, .int (nI (i + 1))), (4, .int (nI (2 ^ (4 * σ 1)))), (2, .long (lN (mkP (kpB σ j9)))), (0, .ref (A 0)), (1, .int (nI j9))]) hx hb dX5_trial_68 hl (k := 0) rfl (zinc _) (by decide) rfl (fun ls hl => ?_)
              refine lv_goto (tgt := 40) hx hb dX5_trial_71 (by decide) ?_
              exact ih40 (i + 1) (by omega) (fun j hj => (Nat.lt_or_ge j i).elim (hno j) (fun h9 => by rw [show j = i from by omega]; exact decide_eq_false c62)) (by omega) ls (lv_sub hl [0, 1, 2, 3, 4] rfl)
            · refine lv_iload hx hb dX5_trial_65 (lv_at hl 0 rfl) ?_
              exact zr_i hx hb hr hlk hQ dX5_trial_67 (by unfold trialV; rw [if_pos (by omega), zToI (by omega), show zfst (resB σ j9) (nMs σ) = i from zfst_at hno (decide_eq_true c62) (show i < 2 ^ (4 * σ 1) by omega)]; exact (if_pos (show i < 2 ^ (4 * σ 1) by omega)).symm)
      exact L40 (2 ^ (4 * σ 1) - 0 + 1) 0 (by omega) (fun j hj => absurd hj (Nat.not_lt_zero j)) (Nat.lt_succ_self _) ls (lv_sub hl [0, 1, 2, 3, 4] rfl)
    · refine lv_sipush (v := (-1001)) hx hb dX5_trial_15 (by decide) ?_
      exact zr_i hx hb hr hlk hQ dX5_trial_18 (by unfold trialV; rw [if_neg (by omega)])
theorem qX5_score_Cond_fieldLink_RX5_40_NestedCodes_reading_LNestedCodes_Reading_ : Cond.fieldLink RX5 40 "NestedCodes" "reading" "LNestedCodes$Reading;" ∈ wsX5_score := by decide +kernel
theorem qX5_score_inX5 : ∀ w ∈ wsX50, w ∈ wsX5_score := by decide +kernel
theorem qX5_score_Cond_fieldLink_RX5_33_NestedCodes_outer_LNestedCodes_OuterCode_ : Cond.fieldLink RX5 33 "NestedCodes" "outer" "LNestedCodes$OuterCode;" ∈ wsX5_score := by decide +kernel
theorem qX5_score_Cond_initialized_RX2 : Cond.initialized RX2 ∈ wsX5_score := by decide +kernel
theorem qX5_score_Cond_instanceMethod_yX2_codeword : Cond.instanceMethod yX2_codeword ∈ wsX5_score := by decide +kernel
theorem qX5_score_Cond_selects_RX2_yX2_codeword_yX2_codeword : Cond.selects RX2 yX2_codeword yX2_codeword ∈ wsX5_score := by decide +kernel
theorem qX5_score_Cond_initialized_RX3 : Cond.initialized RX3 ∈ wsX5_score := by decide +kernel
theorem qX5_score_Cond_instanceMethod_yX3_scoreOf : Cond.instanceMethod yX3_scoreOf ∈ wsX5_score := by decide +kernel
theorem qX5_score_Cond_selects_RX3_yX3_scoreOf_yX3_scoreOf : Cond.selects RX3 yX3_scoreOf yX3_scoreOf ∈ wsX5_score := by decide +kernel
set_option maxHeartbeats 4000000 in
set_option maxRecDepth 100000 in
theorem c_X5_score (l : Launch) (D : va_G) (Y : Nat → ClassId) (A : Nat → Nat) (B : Nat → Nat) (σ : Nat → Nat) (hn : Nat) (h : Nat → Nat → Nat) (r0 : Nat → Nat) (r1 : Nat → Nat) (r2 : Nat → Nat) (r3 : Nat → Nat) (r4 : Nat → Nat) (wt : Nat → Nat) (wn : Nat) (x : Int32)  (kσ : zWF σ) (kr : zCon σ r0 r1 r2 r3 r4) : Met l yX5_score wsX5_score ({ frames := 3, cells := 0, slots := 0, locals := 72 } : Room) (va_Pc [.ref (A 0), .int (x)] (zB D Y (CX Y A B σ hn h (wdS σ) (ddS σ) r0 r1 r2 r3 r4 (σ 0) (pak (itC (wdS σ) σ) (σ 0)) (mkP (fun k9 => decide (k9 < σ 0))) wt wn))) (zR (.int (scoreV σ (x).toInt))) 0 0 (fun _ => False) := by
  refine zr_of (cc := cX5_score) (maxL := 2) (ret := (some .int)) (by decide) rfl (Nat.le_of_ble_eq_true rfl) ?_
  intro p e s m below meth c R args Q hR hx hb hml hr hlk hown hts hK hN hP hQ ls hl
  have hown : s.vm.findClass RX5 = some m.cls := hown
  have hl : lv_has ls 2 [(0, .ref (A 0)), (1, .int (x))] := hl
  have kw := kσ
  obtain ⟨n3, n12, d1, d3, dn, b4, b10, gl, lm, sn, wl, wnz⟩ := kw
  have pb := zp_b b10
  have pk9 := zp_k d3
  have hpak : pak (itC (wdS σ) σ) (σ 0) < 281474976710656 := Nat.lt_of_lt_of_le (pak_lt (fun j _ => itC_lt _ _ j)) (show 2 ^ (4 * σ 0) ≤ 2 ^ 48 from Nat.pow_le_pow_right (by decide) (by omega))
  have hbar := barS_le kσ
  refine lv_aload_n hx hb dX5_score_0 rfl (lv_at hl 0 rfl) ?_
  refine lv_iload_n hx hb dX5_score_1 rfl (lv_at hl 1 rfl) ?_
  refine zc_r (va_runV (As := [.int (x)]) (rest := []) ⟨hx, hb, hml, hown, hts⟩ (c_X5_isMessage l D Y A B σ hn h (wdS σ) (ddS σ) r0 r1 r2 r3 r4 (σ 0) (pak (itC (wdS σ) σ) (σ 0)) (mkP (fun k9 => decide (k9 < σ 0))) wt wn x kσ) (cwV 1 hts gX5_score_X5_isMessage rfl rfl rfl (by decide +kernel) (by rw [hR]; exact ⟨Nat.le_of_ble_eq_true rfl, Nat.le_of_ble_eq_true rfl⟩)) ⟨zB_blind, va_recv hK hP (ci := 5) (q0 := 0) rfl rfl, zp_r hP hK hN⟩ rfl rfl hl.1 rfl (lv_room (Nat.le_of_ble_eq_true rfl)) dX5_score_2 ⟨Nat.zero_le _, Nat.zero_le _⟩).run ?_
  refine zb_if_ne (tgt := 12)  hx hb dX5_score_5 (by decide)  (fun c5 => ?_) (fun c5 => ?_)
  · obtain ⟨j9, hj9, rfl⟩ := zNat (x := x) (N := 2 ^ (4 * σ 1)) (by omega) (by omega)
    refine lv_aload_n hx hb dX5_score_12 rfl (lv_at hl 0 rfl) ?_
    refine va_get (D := D) (ci := 5) (v := .ref (A 11)) (C := RX5) (T := TX5) (N := 7) hx hb hts qX5_score_inX5 hown hK hP 0 rfl rfl 4 (by decide) (hts _ qX5_score_Cond_fieldLink_RX5_40_NestedCodes_reading_LNestedCodes_Reading_) (fun _ h9 => h9) rfl dX5_score_13 ?_
    refine lv_aload_n hx hb dX5_score_16 rfl (lv_at hl 0 rfl) ?_
    refine va_get (D := D) (ci := 5) (v := .ref (A 9)) (C := RX5) (T := TX5) (N := 7) hx hb hts qX5_score_inX5 hown hK hP 0 rfl rfl 3 (by decide) (hts _ qX5_score_Cond_fieldLink_RX5_33_NestedCodes_outer_LNestedCodes_OuterCode_) (fun _ h9 => h9) rfl dX5_score_17 ?_
    refine lv_iload_n hx hb dX5_score_20 rfl (lv_at hl 1 rfl) ?_
    refine zc_r (va_runVN (C := RX2) (As := [.int (nI j9)]) (rest := [.ref (A 11)]) ⟨hx, hb, hml, hown, hts⟩ (c_X2_codeword l D Y A B σ hn h (wdS σ) (ddS σ) r0 r1 r2 r3 r4 (σ 0) (pak (itC (wdS σ) σ) (σ 0)) (mkP (fun k9 => decide (k9 < σ 0))) wt wn j9 (by omega)) ⟨(va_cnB 1 hts gX5_score_X2_codeword_n114 rfl rfl rfl (kM_X5_114 hN) (hts _ qX5_score_Cond_initialized_RX2) (by decide +kernel) (by rw [hR]; exact ⟨Nat.le_of_ble_eq_true rfl, Nat.le_of_ble_eq_true rfl⟩)), (hts _ qX5_score_Cond_instanceMethod_yX2_codeword), (hts _ qX5_score_Cond_selects_RX2_yX2_codeword_yX2_codeword)⟩ ⟨zB_blind, va_recv hK hP (ci := 2) (q0 := 9) rfl rfl, zp_r hP hK hN⟩ rfl rfl hl.1 rfl (lv_room (Nat.le_of_ble_eq_true rfl)) dX5_score_21 ⟨Nat.zero_le _, Nat.zero_le _⟩).run ?_
    refine zc_r (va_runVN (C := RX3) (As := [.long (lN (zcwP j9))]) (rest := []) ⟨hx, hb, hml, hown, hts⟩ (c_X3_scoreOf l D Y A B σ hn h (wdS σ) (ddS σ) r0 r1 r2 r3 r4 (σ 0) (pak (itC (wdS σ) σ) (σ 0)) (mkP (fun k9 => decide (k9 < σ 0))) wt wn (zcwP j9) (zcwP_lt (by omega)) hpak n12) ⟨(va_cnB 1 hts gX5_score_X3_scoreOf_n183 rfl rfl rfl (kM_X5_183 hN) (hts _ qX5_score_Cond_initialized_RX3) (by decide +kernel) (by rw [hR]; exact ⟨Nat.le_of_ble_eq_true rfl, Nat.le_of_ble_eq_true rfl⟩)), (hts _ qX5_score_Cond_instanceMethod_yX3_scoreOf), (hts _ qX5_score_Cond_selects_RX3_yX3_scoreOf_yX3_scoreOf)⟩ ⟨zB_blind, va_recv hK hP (ci := 3) (q0 := 11) rfl rfl, zp_r hP hK hN⟩ rfl rfl hl.1 rfl (lv_room (Nat.le_of_ble_eq_true rfl)) dX5_score_24 ⟨Nat.zero_le _, Nat.zero_le _⟩).run ?_
    refine zt_i (v := (zI (scS σ j9))) (by rw [zdif n12 (by omega)]; exact congrArg zI (scD_ok n12 (fun j hj => (kr j hj).2.2.1))) ?_
    exact zr_i hx hb hr hlk hQ dX5_score_27 (by unfold scoreV; rw [if_pos c5, zToI (by omega)])
  · refine lv_sipush (v := (-1001)) hx hb dX5_score_8 (by decide) ?_
    exact zr_i hx hb hr hlk hQ dX5_score_11 (by unfold scoreV; rw [if_neg c5])
set_option maxHeartbeats 4000000 in
set_option maxRecDepth 100000 in
theorem c_X5_lawful (l : Launch) (D : va_G) (Y : Nat → ClassId) (A : Nat → Nat) (B : Nat → Nat) (σ : Nat → Nat) (hn : Nat) (h : Nat → Nat → Nat) (r0 : Nat → Nat) (r1 : Nat → Nat) (r2 : Nat → Nat) (r3 : Nat → Nat) (r4 : Nat → Nat) (wt : Nat → Nat) (wn : Nat)   (kσ : zWF σ) (kr : zCon σ r0 r1 r2 r3 r4) : Met l yX5_lawful wsX5_lawful ({ frames := 4, cells := 0, slots := 0, locals := 98 } : Room) (va_Pc [.ref (A 0)] (zB D Y (CX Y A B σ hn h (wdS σ) (ddS σ) r0 r1 r2 r3 r4 (σ 0) (pak (itC (wdS σ) σ) (σ 0)) (mkP (fun k9 => decide (k9 < σ 0))) wt wn))) (zR (.int (lawfulV σ))) 0 0 (fun _ => False) := by
  refine zr_of (cc := cX5_lawful) (maxL := 1) (ret := (some .int)) (by decide) rfl (Nat.le_of_ble_eq_true rfl) ?_
  intro p e s m below meth c R args Q hR hx hb hml hr hlk hown hts hK hN hP hQ ls hl
  have hown : s.vm.findClass RX5 = some m.cls := hown
  have hl : lv_has ls 1 [(0, .ref (A 0))] := hl
  have kw := kσ
  obtain ⟨n3, n12, d1, d3, dn, b4, b10, gl, lm, sn, wl, wnz⟩ := kw
  have pb := zp_b b10
  have pk9 := zp_k d3
  have hpak : pak (itC (wdS σ) σ) (σ 0) < 281474976710656 := Nat.lt_of_lt_of_le (pak_lt (fun j _ => itC_lt _ _ j)) (show 2 ^ (4 * σ 0) ≤ 2 ^ 48 from Nat.pow_le_pow_right (by decide) (by omega))
  have hbar := barS_le kσ
  refine lv_aload_n hx hb dX5_lawful_0 rfl (lv_at hl 0 rfl) ?_
  refine zc_r (va_runV (As := []) (rest := []) ⟨hx, hb, hml, hown, hts⟩ (c_X5_lawfulMessage l D Y A B σ hn h r0 r1 r2 r3 r4 wt wn  kσ kr) (cwV 0 hts gX5_lawful_X5_lawfulMessage rfl rfl rfl (by decide +kernel) (by rw [hR]; exact ⟨Nat.le_of_ble_eq_true rfl, Nat.le_of_ble_eq_true rfl⟩)) ⟨zB_blind, va_recv hK hP (ci := 5) (q0 := 0) rfl rfl, zp_r hP hK hN⟩ rfl rfl hl.1 rfl (lv_room (Nat.le_of_ble_eq_true rfl)) dX5_lawful_1 ⟨Nat.zero_le _, Nat.zero_le _⟩).run ?_
  rcases Nat.lt_or_ge (lawM σ) (nMs σ) with hlm | hlm
  · have hlm2 : lawM σ < 2 ^ (4 * σ 1) := hlm
    refine zt_i (v := (nI (lawM σ))) (if_pos hlm) ?_
    refine lv_iconst (v := (-1)) hx hb dX5_lawful_4 (by decide) ?_
    refine zz_icmp_ne (tgt := 12) (a := (((lawM σ : Nat)) : Int)) (b := -1) hx hb dX5_lawful_5 (by decide) (zt_n (by omega)) (by decide) (fun c5 => ?_) (fun c5 => ?_)
    · refine lv_iconst (v := (nI 1)) hx hb dX5_lawful_12 (by decide) ?_
      exact zr_i hx hb hr hlk hQ dX5_lawful_13 (by unfold lawfulV; rw [if_pos hlm])
    · exact absurd c5 (by omega)
  · refine zt_i (v := (-1)) (if_neg (by omega)) ?_
    refine lv_iconst (v := (-1)) hx hb dX5_lawful_4 (by decide) ?_
    refine zz_icmp_ne (tgt := 12) (a := -1) (b := -1) hx hb dX5_lawful_5 (by decide) (by decide) (by decide) (fun c5 => ?_) (fun c5 => ?_)
    · exact absurd c5 (by omega)
    · refine lv_iconst (v := (nI 0)) hx hb dX5_lawful_8 (by decide) ?_
      refine lv_goto (tgt := 13) hx hb dX5_lawful_9 (by decide) ?_
      exact zr_i hx hb hr hlk hQ dX5_lawful_13 (by unfold lawfulV; rw [if_neg (by omega)])
set_option maxHeartbeats 4000000 in
set_option maxRecDepth 100000 in
theorem c_X5_decode (l : Launch) (D : va_G) (Y : Nat → ClassId) (A : Nat → Nat) (B : Nat → Nat) (σ : Nat → Nat) (hn : Nat) (h : Nat → Nat → Nat) (r0 : Nat → Nat) (r1 : Nat → Nat) (r2 : Nat → Nat) (r3 : Nat → Nat) (r4 : Nat → Nat) (wt : Nat → Nat) (wn : Nat)   (kσ : zWF σ) (kr : zCon σ r0 r1 r2 r3 r4) : Met l yX5_decode wsX5_decode ({ frames := 4, cells := 0, slots := 0, locals := 98 } : Room) (va_Pc [.ref (A 0)] (zB D Y (CX Y A B σ hn h (wdS σ) (ddS σ) r0 r1 r2 r3 r4 (σ 0) (pak (itC (wdS σ) σ) (σ 0)) (mkP (fun k9 => decide (k9 < σ 0))) wt wn))) (zR (.int (decodeV σ))) 0 0 (fun _ => False) := by
  refine zr_of (cc := cX5_decode) (maxL := 2) (ret := (some .int)) (by decide) rfl (Nat.le_of_ble_eq_true rfl) ?_
  intro p e s m below meth c R args Q hR hx hb hml hr hlk hown hts hK hN hP hQ ls hl
  have hown : s.vm.findClass RX5 = some m.cls := hown
  have hl : lv_has ls 2 [(0, .ref (A 0))] := hl
  have kw := kσ
  obtain ⟨n3, n12, d1, d3, dn, b4, b10, gl, lm, sn, wl, wnz⟩ := kw
  have pb := zp_b b10
  have pk9 := zp_k d3
  have hpak : pak (itC (wdS σ) σ) (σ 0) < 281474976710656 := Nat.lt_of_lt_of_le (pak_lt (fun j _ => itC_lt _ _ j)) (show 2 ^ (4 * σ 0) ≤ 2 ^ 48 from Nat.pow_le_pow_right (by decide) (by omega))
  have hbar := barS_le kσ
  refine lv_aload_n hx hb dX5_decode_0 rfl (lv_at hl 0 rfl) ?_
  refine zc_r (va_runV (As := []) (rest := []) ⟨hx, hb, hml, hown, hts⟩ (c_X5_lawfulMessage l D Y A B σ hn h r0 r1 r2 r3 r4 wt wn  kσ kr) (cwV 0 hts gX5_decode_X5_lawfulMessage rfl rfl rfl (by decide +kernel) (by rw [hR]; exact ⟨Nat.le_of_ble_eq_true rfl, Nat.le_of_ble_eq_true rfl⟩)) ⟨zB_blind, va_recv hK hP (ci := 5) (q0 := 0) rfl rfl, zp_r hP hK hN⟩ rfl rfl hl.1 rfl (lv_room (Nat.le_of_ble_eq_true rfl)) dX5_decode_1 ⟨Nat.zero_le _, Nat.zero_le _⟩).run ?_
  rcases Nat.lt_or_ge (lawM σ) (nMs σ) with hlm | hlm
  · have hlm2 : lawM σ < 2 ^ (4 * σ 1) := hlm
    refine zt_i (v := (nI (lawM σ))) (if_pos hlm) ?_
    refine lv_istore_n (lv' := [(1, .int (nI (lawM σ))), (0, .ref (A 0))]) hx hb dX5_decode_4 rfl hl (by decide) rfl (fun ls hl => ?_)
    refine lv_iload_n hx hb dX5_decode_5 rfl (lv_at hl 0 rfl) ?_
    refine lv_iconst (v := (-1)) hx hb dX5_decode_6 (by decide) ?_
    refine zz_icmp_ne (tgt := 16) (a := (((lawM σ : Nat)) : Int)) (b := -1) hx hb dX5_decode_7 (by decide) (zt_n (by omega)) (by decide) (fun c7 => ?_) (fun c7 => ?_)
    · refine lv_iload_n hx hb dX5_decode_16 rfl (lv_at hl 0 rfl) ?_
      exact zr_i hx hb hr hlk hQ dX5_decode_17 (by unfold decodeV orI; rw [if_pos hlm])
    · exact absurd c7 (by omega)
  · refine zt_i (v := (-1)) (if_neg (by omega)) ?_
    refine lv_istore_n (lv' := [(1, .int (-1)), (0, .ref (A 0))]) hx hb dX5_decode_4 rfl hl (by decide) rfl (fun ls hl => ?_)
    refine lv_iload_n hx hb dX5_decode_5 rfl (lv_at hl 0 rfl) ?_
    refine lv_iconst (v := (-1)) hx hb dX5_decode_6 (by decide) ?_
    refine zz_icmp_ne (tgt := 16) (a := -1) (b := -1) hx hb dX5_decode_7 (by decide) (by decide) (by decide) (fun c7 => ?_) (fun c7 => ?_)
    · exact absurd c7 (by omega)
    · refine lv_sipush (v := (-1004)) hx hb dX5_decode_10 (by decide) ?_
      refine lv_goto (tgt := 17) hx hb dX5_decode_13 (by decide) ?_
      exact zr_i hx hb hr hlk hQ dX5_decode_17 (by unfold decodeV orI; rw [if_neg (by omega)])
theorem qX5_decidingTrial_Cond_fieldLink_RX5_10_NestedCodes_state_LNestedCodes_State_ : Cond.fieldLink RX5 10 "NestedCodes" "state" "LNestedCodes$State;" ∈ wsX5_decidingTrial := by decide +kernel
theorem qX5_decidingTrial_inX5 : ∀ w ∈ wsX50, w ∈ wsX5_decidingTrial := by decide +kernel
theorem qX5_decidingTrial_Cond_initialized_RX4 : Cond.initialized RX4 ∈ wsX5_decidingTrial := by decide +kernel
theorem qX5_decidingTrial_Cond_instanceMethod_yX4_outerDistance : Cond.instanceMethod yX4_outerDistance ∈ wsX5_decidingTrial := by decide +kernel
theorem qX5_decidingTrial_Cond_selects_RX4_yX4_outerDistance_yX4_outerDistance : Cond.selects RX4 yX4_outerDistance yX4_outerDistance ∈ wsX5_decidingTrial := by decide +kernel
theorem qX5_decidingTrial_Cond_fieldLink_RX5_33_NestedCodes_outer_LNestedCodes_OuterCode_ : Cond.fieldLink RX5 33 "NestedCodes" "outer" "LNestedCodes$OuterCode;" ∈ wsX5_decidingTrial := by decide +kernel
theorem qX5_decidingTrial_Cond_initialized_RX2 : Cond.initialized RX2 ∈ wsX5_decidingTrial := by decide +kernel
theorem qX5_decidingTrial_Cond_instanceMethod_yX2_codeword : Cond.instanceMethod yX2_codeword ∈ wsX5_decidingTrial := by decide +kernel
theorem qX5_decidingTrial_Cond_selects_RX2_yX2_codeword_yX2_codeword : Cond.selects RX2 yX2_codeword yX2_codeword ∈ wsX5_decidingTrial := by decide +kernel
theorem qX5_decidingTrial_Cond_fieldLink_RX5_40_NestedCodes_reading_LNestedCodes_Reading_ : Cond.fieldLink RX5 40 "NestedCodes" "reading" "LNestedCodes$Reading;" ∈ wsX5_decidingTrial := by decide +kernel
theorem qX5_decidingTrial_Cond_initialized_RX3 : Cond.initialized RX3 ∈ wsX5_decidingTrial := by decide +kernel
theorem qX5_decidingTrial_Cond_instanceMethod_yX3_keptBlocks : Cond.instanceMethod yX3_keptBlocks ∈ wsX5_decidingTrial := by decide +kernel
theorem qX5_decidingTrial_Cond_selects_RX3_yX3_keptBlocks_yX3_keptBlocks : Cond.selects RX3 yX3_keptBlocks yX3_keptBlocks ∈ wsX5_decidingTrial := by decide +kernel
set_option maxHeartbeats 4000000 in
set_option maxRecDepth 100000 in
theorem c_X5_decidingTrial (l : Launch) (D : va_G) (Y : Nat → ClassId) (A : Nat → Nat) (B : Nat → Nat) (σ : Nat → Nat) (hn : Nat) (h : Nat → Nat → Nat) (r0 : Nat → Nat) (r1 : Nat → Nat) (r2 : Nat → Nat) (r3 : Nat → Nat) (r4 : Nat → Nat) (wt : Nat → Nat) (wn : Nat)   (kσ : zWF σ) (kr : zCon σ r0 r1 r2 r3 r4) : Met l yX5_decidingTrial wsX5_decidingTrial ({ frames := 4, cells := 0, slots := 0, locals := 98 } : Room) (va_Pc [.ref (A 0)] (zB D Y (CX Y A B σ hn h (wdS σ) (ddS σ) r0 r1 r2 r3 r4 (σ 0) (pak (itC (wdS σ) σ) (σ 0)) (mkP (fun k9 => decide (k9 < σ 0))) wt wn))) (zR (.int (decTV σ))) 0 0 (fun _ => False) := by
  refine zr_of (cc := cX5_decidingTrial) (maxL := 3) (ret := (some .int)) (by decide) rfl (Nat.le_of_ble_eq_true rfl) ?_
  intro p e s m below meth c R args Q hR hx hb hml hr hlk hown hts hK hN hP hQ ls hl
  have hown : s.vm.findClass RX5 = some m.cls := hown
  have hl : lv_has ls 3 [(0, .ref (A 0))] := hl
  have kw := kσ
  obtain ⟨n3, n12, d1, d3, dn, b4, b10, gl, lm, sn, wl, wnz⟩ := kw
  have pb := zp_b b10
  have pk9 := zp_k d3
  have hpak : pak (itC (wdS σ) σ) (σ 0) < 281474976710656 := Nat.lt_of_lt_of_le (pak_lt (fun j _ => itC_lt _ _ j)) (show 2 ^ (4 * σ 0) ≤ 2 ^ 48 from Nat.pow_le_pow_right (by decide) (by omega))
  have hbar := barS_le kσ
  refine lv_aload_n hx hb dX5_decidingTrial_0 rfl (lv_at hl 0 rfl) ?_
  refine zc_r (va_runV (As := []) (rest := []) ⟨hx, hb, hml, hown, hts⟩ (c_X5_lawfulMessage l D Y A B σ hn h r0 r1 r2 r3 r4 wt wn  kσ kr) (cwV 0 hts gX5_decidingTrial_X5_lawfulMessage rfl rfl rfl (by decide +kernel) (by rw [hR]; exact ⟨Nat.le_of_ble_eq_true rfl, Nat.le_of_ble_eq_true rfl⟩)) ⟨zB_blind, va_recv hK hP (ci := 5) (q0 := 0) rfl rfl, zp_r hP hK hN⟩ rfl rfl hl.1 rfl (lv_room (Nat.le_of_ble_eq_true rfl)) dX5_decidingTrial_1 ⟨Nat.zero_le _, Nat.zero_le _⟩).run ?_
  rcases Nat.lt_or_ge (lawM σ) (nMs σ) with hlm | hlm
  · have hlm2 : lawM σ < 2 ^ (4 * σ 1) := hlm
    refine zt_i (v := (nI (lawM σ))) (if_pos hlm) ?_
    refine lv_istore_n (lv' := [(1, .int (nI (lawM σ))), (0, .ref (A 0))]) hx hb dX5_decidingTrial_4 rfl hl (by decide) rfl (fun ls hl => ?_)
    refine lv_iload_n hx hb dX5_decidingTrial_5 rfl (lv_at hl 0 rfl) ?_
    refine lv_iconst (v := (-1)) hx hb dX5_decidingTrial_6 (by decide) ?_
    refine zz_icmp_ne (tgt := 14) (a := (((lawM σ : Nat)) : Int)) (b := -1) hx hb dX5_decidingTrial_7 (by decide) (zt_n (by omega)) (by decide) (fun c7 => ?_) (fun c7 => ?_)
    · refine lv_iconst (v := (nI 0)) hx hb dX5_decidingTrial_14 (by decide) ?_
      refine lv_istore_n (lv' := [(2, .int (nI 0)), (1, .int (nI (lawM σ))), (0, .ref (A 0))]) hx hb dX5_decidingTrial_15 rfl hl (by decide) rfl (fun ls hl => ?_)
      have L16 : ∀ (n9 : Nat) (i : Nat) (hi : i ≤ σ 0 - σ 1 + 1) (hno : ∀ j, j < i → resB σ j (lawM σ) = false), σ 0 - σ 1 + 1 - i < n9 → ∀ ls : Array Slot, lv_has ls 3 [(2, .int (nI i)), (1, .int (nI (lawM σ))), (0, .ref (A 0))] → W p l e R s m args below meth c s.heap [] 0 0 Q (F0 m 16 ls []) := by
        intro n9
        induction n9 with
        | zero => intro i hi hno hn9; exact absurd hn9 (Nat.not_lt_zero _)
        | succ n9 ih9 =>
          have ih16 := ih9
          clear ih9
          intro i hi hno hn9 ls hl
          refine lv_iload_n hx hb dX5_decidingTrial_16 rfl (lv_at hl 0 rfl) ?_
          refine lv_aload_n hx hb dX5_decidingTrial_17 rfl (lv_at hl 2 rfl) ?_
          refine va_get (D := D) (ci := 5) (v := .ref (A 1)) (C := RX5) (T := TX5) (N := 7) hx hb hts qX5_decidingTrial_inX5 hown hK hP 0 rfl rfl 0 (by decide) (hts _ qX5_decidingTrial_Cond_fieldLink_RX5_10_NestedCodes_state_LNestedCodes_State_) (fun _ h9 => h9) rfl dX5_decidingTrial_18 ?_
          refine zc_r (va_runVN (C := RX4) (As := []) (rest := [.int (nI i)]) ⟨hx, hb, hml, hown, hts⟩ (c_X4_outerDistance l D Y A B σ hn h (wdS σ) (ddS σ) r0 r1 r2 r3 r4 (σ 0) (pak (itC (wdS σ) σ) (σ 0)) (mkP (fun k9 => decide (k9 < σ 0))) wt wn  kσ) ⟨(va_cnB 0 hts gX5_decidingTrial_X4_outerDistance_n87 rfl rfl rfl (kM_X5_87 hN) (hts _ qX5_decidingTrial_Cond_initialized_RX4) (by decide +kernel) (by rw [hR]; exact ⟨Nat.le_of_ble_eq_true rfl, Nat.le_of_ble_eq_true rfl⟩)), (hts _ qX5_decidingTrial_Cond_instanceMethod_yX4_outerDistance), (hts _ qX5_decidingTrial_Cond_selects_RX4_yX4_outerDistance_yX4_outerDistance)⟩ ⟨zB_blind, va_recv hK hP (ci := 4) (q0 := 1) rfl rfl, zp_r hP hK hN⟩ rfl rfl hl.1 rfl (lv_room (Nat.le_of_ble_eq_true rfl)) dX5_decidingTrial_21 ⟨Nat.zero_le _, Nat.zero_le _⟩).run ?_
          refine zn_icmp_ge (tgt := 59)  hx hb dX5_decidingTrial_24 (by decide) (by omega) (by omega) (fun c24 => ?_) (fun c24 => ?_)
          · obtain rfl : i = σ 0 - σ 1 + 1 := by omega
            refine lv_sipush (v := (-1004)) hx hb dX5_decidingTrial_59 (by decide) ?_
            exact zr_i hx hb hr hlk hQ dX5_decidingTrial_62 (by unfold decTV; rw [if_pos hlm, show zfst (fun s => resB σ s (lawM σ)) (σ 0 - σ 1 + 1) = σ 0 - σ 1 + 1 from zfst_no hno]; exact (if_neg (Nat.lt_irrefl _)).symm)
          · refine lv_aload_n hx hb dX5_decidingTrial_27 rfl (lv_at hl 2 rfl) ?_
            refine lv_aload_n hx hb dX5_decidingTrial_28 rfl (lv_at hl 2 rfl) ?_
            refine va_get (D := D) (ci := 5) (v := .ref (A 9)) (C := RX5) (T := TX5) (N := 7) hx hb hts qX5_decidingTrial_inX5 hown hK hP 0 rfl rfl 3 (by decide) (hts _ qX5_decidingTrial_Cond_fieldLink_RX5_33_NestedCodes_outer_LNestedCodes_OuterCode_) (fun _ h9 => h9) rfl dX5_decidingTrial_29 ?_
            refine lv_iload_n hx hb dX5_decidingTrial_32 rfl (lv_at hl 1 rfl) ?_
            refine zc_r (va_runVN (C := RX2) (As := [.int (nI (lawM σ))]) (rest := [.ref (A 0)]) ⟨hx, hb, hml, hown, hts⟩ (c_X2_codeword l D Y A B σ hn h (wdS σ) (ddS σ) r0 r1 r2 r3 r4 (σ 0) (pak (itC (wdS σ) σ) (σ 0)) (mkP (fun k9 => decide (k9 < σ 0))) wt wn (lawM σ) (by omega)) ⟨(va_cnB 1 hts gX5_decidingTrial_X2_codeword_n114 rfl rfl rfl (kM_X5_114 hN) (hts _ qX5_decidingTrial_Cond_initialized_RX2) (by decide +kernel) (by rw [hR]; exact ⟨Nat.le_of_ble_eq_true rfl, Nat.le_of_ble_eq_true rfl⟩)), (hts _ qX5_decidingTrial_Cond_instanceMethod_yX2_codeword), (hts _ qX5_decidingTrial_Cond_selects_RX2_yX2_codeword_yX2_codeword)⟩ ⟨zB_blind, va_recv hK hP (ci := 2) (q0 := 9) rfl rfl, zp_r hP hK hN⟩ rfl rfl hl.1 rfl (lv_room (Nat.le_of_ble_eq_true rfl)) dX5_decidingTrial_33 ⟨Nat.zero_le _, Nat.zero_le _⟩).run ?_
            refine lv_iload_n hx hb dX5_decidingTrial_36 rfl (lv_at hl 0 rfl) ?_
            refine lv_aload_n hx hb dX5_decidingTrial_37 rfl (lv_at hl 2 rfl) ?_
            refine va_get (D := D) (ci := 5) (v := .ref (A 11)) (C := RX5) (T := TX5) (N := 7) hx hb hts qX5_decidingTrial_inX5 hown hK hP 0 rfl rfl 4 (by decide) (hts _ qX5_decidingTrial_Cond_fieldLink_RX5_40_NestedCodes_reading_LNestedCodes_Reading_) (fun _ h9 => h9) rfl dX5_decidingTrial_38 ?_
            refine lv_iload_n hx hb dX5_decidingTrial_41 rfl (lv_at hl 0 rfl) ?_
            refine zc_r (va_runVN (C := RX3) (As := [.int (nI i)]) (rest := [.int (nI i), .long (lN (zcwP (lawM σ))), .ref (A 0)]) ⟨hx, hb, hml, hown, hts⟩ (c_X3_keptBlocks l D Y A B σ hn h (wdS σ) (ddS σ) r0 r1 r2 r3 r4 (σ 0) (pak (itC (wdS σ) σ) (σ 0)) (mkP (fun k9 => decide (k9 < σ 0))) wt wn i (by omega) n12 (fun j hj => Nat.lt_of_lt_of_le (kr j hj).2.2.2.2.1 n12) rfl) ⟨(va_cnB 1 hts gX5_decidingTrial_X3_keptBlocks_n173 rfl rfl rfl (kM_X5_173 hN) (hts _ qX5_decidingTrial_Cond_initialized_RX3) (by decide +kernel) (by rw [hR]; exact ⟨Nat.le_of_ble_eq_true rfl, Nat.le_of_ble_eq_true rfl⟩)), (hts _ qX5_decidingTrial_Cond_instanceMethod_yX3_keptBlocks), (hts _ qX5_decidingTrial_Cond_selects_RX3_yX3_keptBlocks_yX3_keptBlocks)⟩ ⟨zB_blind, va_recv hK hP (ci := 3) (q0 := 11) rfl rfl, zp_r hP hK hN⟩ rfl rfl hl.1 rfl (lv_room (Nat.le_of_ble_eq_true rfl)) dX5_decidingTrial_42 ⟨Nat.zero_le _, Nat.zero_le _⟩).run ?_
            refine zt_l (v := (lN (mkP (kpB σ i)))) (by rw [show min i (σ 0) = i from by omega]; exact congrArg lN (mkP_cong (fun j _ => kp_ok kr i (by omega) j))) ?_
            refine zc_r (va_runV (As := [.long (lN (zcwP (lawM σ))), .int (nI i), .long (lN (mkP (kpB σ i)))]) (rest := []) ⟨hx, hb, hml, hown, hts⟩ (c_X5_isResult l D Y A B σ hn h r0 r1 r2 r3 r4 wt wn (zcwP (lawM σ)) i (mkP (kpB σ i)) (lawM σ) (kpB σ i) kσ kr rfl (by omega) rfl (by omega)) (cwV 3 hts gX5_decidingTrial_X5_isResult rfl rfl rfl (by decide +kernel) (by rw [hR]; exact ⟨Nat.le_of_ble_eq_true rfl, Nat.le_of_ble_eq_true rfl⟩)) ⟨zB_blind, va_recv hK hP (ci := 5) (q0 := 0) rfl rfl, zp_r hP hK hN⟩ rfl rfl hl.1 rfl (lv_room (Nat.le_of_ble_eq_true rfl)) dX5_decidingTrial_45 ⟨Nat.zero_le _, Nat.zero_le _⟩).run ?_
            refine zb_if_eq (tgt := 53)  hx hb dX5_decidingTrial_48 (by decide)  (fun c48 => ?_) (fun c48 => ?_)
            · refine lv_iinc (v := (nI (i + 1))) (lv' := [(2, .int (nI (i + 1))), (1, .int (nI (lawM σ))), (0, .ref (A 0))]) hx hb dX5_decidingTrial_53 hl (k := 0) rfl (zinc _) (by decide) rfl (fun ls hl => ?_)
              refine lv_goto (tgt := 16) hx hb dX5_decidingTrial_56 (by decide) ?_
              exact ih16 (i + 1) (by omega) (fun j hj => (Nat.lt_or_ge j i).elim (hno j) (fun h9 => by rw [show j = i from by omega]; exact decide_eq_false c48)) (by omega) ls (lv_sub hl [0, 1, 2] rfl)
            · refine lv_iload_n hx hb dX5_decidingTrial_51 rfl (lv_at hl 0 rfl) ?_
              exact zr_i hx hb hr hlk hQ dX5_decidingTrial_52 (by unfold decTV; rw [if_pos hlm, show zfst (fun s => resB σ s (lawM σ)) (σ 0 - σ 1 + 1) = i from zfst_at hno (decide_eq_true c48) (by omega)]; exact (if_pos (by omega)).symm)
      exact L16 (σ 0 - σ 1 + 1 - 0 + 1) 0 (by omega) (fun j hj => absurd hj (Nat.not_lt_zero j)) (Nat.lt_succ_self _) ls (lv_sub hl [0, 1, 2] rfl)
    · exact absurd c7 (by omega)
  · refine zt_i (v := (-1)) (if_neg (by omega)) ?_
    refine lv_istore_n (lv' := [(1, .int (-1)), (0, .ref (A 0))]) hx hb dX5_decidingTrial_4 rfl hl (by decide) rfl (fun ls hl => ?_)
    refine lv_iload_n hx hb dX5_decidingTrial_5 rfl (lv_at hl 0 rfl) ?_
    refine lv_iconst (v := (-1)) hx hb dX5_decidingTrial_6 (by decide) ?_
    refine zz_icmp_ne (tgt := 14) (a := -1) (b := -1) hx hb dX5_decidingTrial_7 (by decide) (by decide) (by decide) (fun c7 => ?_) (fun c7 => ?_)
    · exact absurd c7 (by omega)
    · refine lv_sipush (v := (-1004)) hx hb dX5_decidingTrial_10 (by decide) ?_
      exact zr_i hx hb hr hlk hQ dX5_decidingTrial_13 (by unfold decTV; rw [if_neg (by omega)])
theorem qX5_margin_Cond_fieldLink_RX5_40_NestedCodes_reading_LNestedCodes_Reading_ : Cond.fieldLink RX5 40 "NestedCodes" "reading" "LNestedCodes$Reading;" ∈ wsX5_margin := by decide +kernel
theorem qX5_margin_inX5 : ∀ w ∈ wsX50, w ∈ wsX5_margin := by decide +kernel
theorem qX5_margin_Cond_fieldLink_RX5_33_NestedCodes_outer_LNestedCodes_OuterCode_ : Cond.fieldLink RX5 33 "NestedCodes" "outer" "LNestedCodes$OuterCode;" ∈ wsX5_margin := by decide +kernel
theorem qX5_margin_Cond_initialized_RX2 : Cond.initialized RX2 ∈ wsX5_margin := by decide +kernel
theorem qX5_margin_Cond_instanceMethod_yX2_codeword : Cond.instanceMethod yX2_codeword ∈ wsX5_margin := by decide +kernel
theorem qX5_margin_Cond_selects_RX2_yX2_codeword_yX2_codeword : Cond.selects RX2 yX2_codeword yX2_codeword ∈ wsX5_margin := by decide +kernel
theorem qX5_margin_Cond_initialized_RX3 : Cond.initialized RX3 ∈ wsX5_margin := by decide +kernel
theorem qX5_margin_Cond_instanceMethod_yX3_scoreOf : Cond.instanceMethod yX3_scoreOf ∈ wsX5_margin := by decide +kernel
theorem qX5_margin_Cond_selects_RX3_yX3_scoreOf_yX3_scoreOf : Cond.selects RX3 yX3_scoreOf yX3_scoreOf ∈ wsX5_margin := by decide +kernel
set_option maxHeartbeats 4000000 in
set_option maxRecDepth 100000 in
theorem c_X5_margin (l : Launch) (D : va_G) (Y : Nat → ClassId) (A : Nat → Nat) (B : Nat → Nat) (σ : Nat → Nat) (hn : Nat) (h : Nat → Nat → Nat) (r0 : Nat → Nat) (r1 : Nat → Nat) (r2 : Nat → Nat) (r3 : Nat → Nat) (r4 : Nat → Nat) (wt : Nat → Nat) (wn : Nat)   (kσ : zWF σ) (kr : zCon σ r0 r1 r2 r3 r4) : Met l yX5_margin wsX5_margin ({ frames := 4, cells := 0, slots := 0, locals := 98 } : Room) (va_Pc [.ref (A 0)] (zB D Y (CX Y A B σ hn h (wdS σ) (ddS σ) r0 r1 r2 r3 r4 (σ 0) (pak (itC (wdS σ) σ) (σ 0)) (mkP (fun k9 => decide (k9 < σ 0))) wt wn))) (zR (.int (marginV σ))) 0 0 (fun _ => False) := by
  refine zr_of (cc := cX5_margin) (maxL := 2) (ret := (some .int)) (by decide) rfl (Nat.le_of_ble_eq_true rfl) ?_
  intro p e s m below meth c R args Q hR hx hb hml hr hlk hown hts hK hN hP hQ ls hl
  have hown : s.vm.findClass RX5 = some m.cls := hown
  have hl : lv_has ls 2 [(0, .ref (A 0))] := hl
  have kw := kσ
  obtain ⟨n3, n12, d1, d3, dn, b4, b10, gl, lm, sn, wl, wnz⟩ := kw
  have pb := zp_b b10
  have pk9 := zp_k d3
  have hpak : pak (itC (wdS σ) σ) (σ 0) < 281474976710656 := Nat.lt_of_lt_of_le (pak_lt (fun j _ => itC_lt _ _ j)) (show 2 ^ (4 * σ 0) ≤ 2 ^ 48 from Nat.pow_le_pow_right (by decide) (by omega))
  have hbar := barS_le kσ
  refine lv_aload_n hx hb dX5_margin_0 rfl (lv_at hl 0 rfl) ?_
  refine zc_r (va_runV (As := []) (rest := []) ⟨hx, hb, hml, hown, hts⟩ (c_X5_lawfulMessage l D Y A B σ hn h r0 r1 r2 r3 r4 wt wn  kσ kr) (cwV 0 hts gX5_margin_X5_lawfulMessage rfl rfl rfl (by decide +kernel) (by rw [hR]; exact ⟨Nat.le_of_ble_eq_true rfl, Nat.le_of_ble_eq_true rfl⟩)) ⟨zB_blind, va_recv hK hP (ci := 5) (q0 := 0) rfl rfl, zp_r hP hK hN⟩ rfl rfl hl.1 rfl (lv_room (Nat.le_of_ble_eq_true rfl)) dX5_margin_1 ⟨Nat.zero_le _, Nat.zero_le _⟩).run ?_
  rcases Nat.lt_or_ge (lawM σ) (nMs σ) with hlm | hlm
  · have hlm2 : lawM σ < 2 ^ (4 * σ 1) := hlm
    refine zt_i (v := (nI (lawM σ))) (if_pos hlm) ?_
    refine lv_istore_n (lv' := [(1, .int (nI (lawM σ))), (0, .ref (A 0))]) hx hb dX5_margin_4 rfl hl (by decide) rfl (fun ls hl => ?_)
    refine lv_iload_n hx hb dX5_margin_5 rfl (lv_at hl 0 rfl) ?_
    refine lv_iconst (v := (-1)) hx hb dX5_margin_6 (by decide) ?_
    refine zz_icmp_ne (tgt := 14) (a := (((lawM σ : Nat)) : Int)) (b := -1) hx hb dX5_margin_7 (by decide) (zt_n (by omega)) (by decide) (fun c7 => ?_) (fun c7 => ?_)
    · refine lv_aload_n hx hb dX5_margin_14 rfl (lv_at hl 1 rfl) ?_
      refine va_get (D := D) (ci := 5) (v := .ref (A 11)) (C := RX5) (T := TX5) (N := 7) hx hb hts qX5_margin_inX5 hown hK hP 0 rfl rfl 4 (by decide) (hts _ qX5_margin_Cond_fieldLink_RX5_40_NestedCodes_reading_LNestedCodes_Reading_) (fun _ h9 => h9) rfl dX5_margin_15 ?_
      refine lv_aload_n hx hb dX5_margin_18 rfl (lv_at hl 1 rfl) ?_
      refine va_get (D := D) (ci := 5) (v := .ref (A 9)) (C := RX5) (T := TX5) (N := 7) hx hb hts qX5_margin_inX5 hown hK hP 0 rfl rfl 3 (by decide) (hts _ qX5_margin_Cond_fieldLink_RX5_33_NestedCodes_outer_LNestedCodes_OuterCode_) (fun _ h9 => h9) rfl dX5_margin_19 ?_
      refine lv_iload_n hx hb dX5_margin_22 rfl (lv_at hl 0 rfl) ?_
      refine zc_r (va_runVN (C := RX2) (As := [.int (nI (lawM σ))]) (rest := [.ref (A 11)]) ⟨hx, hb, hml, hown, hts⟩ (c_X2_codeword l D Y A B σ hn h (wdS σ) (ddS σ) r0 r1 r2 r3 r4 (σ 0) (pak (itC (wdS σ) σ) (σ 0)) (mkP (fun k9 => decide (k9 < σ 0))) wt wn (lawM σ) (by omega)) ⟨(va_cnB 1 hts gX5_margin_X2_codeword_n114 rfl rfl rfl (kM_X5_114 hN) (hts _ qX5_margin_Cond_initialized_RX2) (by decide +kernel) (by rw [hR]; exact ⟨Nat.le_of_ble_eq_true rfl, Nat.le_of_ble_eq_true rfl⟩)), (hts _ qX5_margin_Cond_instanceMethod_yX2_codeword), (hts _ qX5_margin_Cond_selects_RX2_yX2_codeword_yX2_codeword)⟩ ⟨zB_blind, va_recv hK hP (ci := 2) (q0 := 9) rfl rfl, zp_r hP hK hN⟩ rfl rfl hl.1 rfl (lv_room (Nat.le_of_ble_eq_true rfl)) dX5_margin_23 ⟨Nat.zero_le _, Nat.zero_le _⟩).run ?_
      refine zc_r (va_runVN (C := RX3) (As := [.long (lN (zcwP (lawM σ)))]) (rest := []) ⟨hx, hb, hml, hown, hts⟩ (c_X3_scoreOf l D Y A B σ hn h (wdS σ) (ddS σ) r0 r1 r2 r3 r4 (σ 0) (pak (itC (wdS σ) σ) (σ 0)) (mkP (fun k9 => decide (k9 < σ 0))) wt wn (zcwP (lawM σ)) (zcwP_lt (by omega)) hpak n12) ⟨(va_cnB 1 hts gX5_margin_X3_scoreOf_n183 rfl rfl rfl (kM_X5_183 hN) (hts _ qX5_margin_Cond_initialized_RX3) (by decide +kernel) (by rw [hR]; exact ⟨Nat.le_of_ble_eq_true rfl, Nat.le_of_ble_eq_true rfl⟩)), (hts _ qX5_margin_Cond_instanceMethod_yX3_scoreOf), (hts _ qX5_margin_Cond_selects_RX3_yX3_scoreOf_yX3_scoreOf)⟩ ⟨zB_blind, va_recv hK hP (ci := 3) (q0 := 11) rfl rfl, zp_r hP hK hN⟩ rfl rfl hl.1 rfl (lv_room (Nat.le_of_ble_eq_true rfl)) dX5_margin_26 ⟨Nat.zero_le _, Nat.zero_le _⟩).run ?_
      refine zt_i (v := (zI (scS σ (lawM σ)))) (by rw [zdif n12 (by omega)]; exact congrArg zI (scD_ok n12 (fun j hj => (kr j hj).2.2.1))) ?_
      refine lv_aload_n hx hb dX5_margin_29 rfl (lv_at hl 1 rfl) ?_
      refine zc_r (va_runV (As := []) (rest := [.int (zI (scS σ (lawM σ)))]) ⟨hx, hb, hml, hown, hts⟩ (c_X5_lawBound l D Y A B σ hn h (wdS σ) (ddS σ) r0 r1 r2 r3 r4 (σ 0) (pak (itC (wdS σ) σ) (σ 0)) (mkP (fun k9 => decide (k9 < σ 0))) wt wn  kσ (Nat.le_trans (dd_le σ) (by decide))) (cwV 0 hts gX5_margin_X5_lawBound rfl rfl rfl (by decide +kernel) (by rw [hR]; exact ⟨Nat.le_of_ble_eq_true rfl, Nat.le_of_ble_eq_true rfl⟩)) ⟨zB_blind, va_recv hK hP (ci := 5) (q0 := 0) rfl rfl, zp_r hP hK hN⟩ rfl rfl hl.1 rfl (lv_room (Nat.le_of_ble_eq_true rfl)) dX5_margin_30 ⟨Nat.zero_le _, Nat.zero_le _⟩).run ?_
      refine zt_i (v := (nI (barS σ))) (rfl) ?_
      refine zv_isub hx hb (v := (zI ((scS σ (lawM σ)) - ((barS σ : Nat) : Int)))) dX5_margin_33 (by rw [zI_nat]; exact zI_sub _ _) ?_
      exact zr_i hx hb hr hlk hQ dX5_margin_34 (by unfold marginV; rw [if_pos hlm])
    · exact absurd c7 (by omega)
  · refine zt_i (v := (-1)) (if_neg (by omega)) ?_
    refine lv_istore_n (lv' := [(1, .int (-1)), (0, .ref (A 0))]) hx hb dX5_margin_4 rfl hl (by decide) rfl (fun ls hl => ?_)
    refine lv_iload_n hx hb dX5_margin_5 rfl (lv_at hl 0 rfl) ?_
    refine lv_iconst (v := (-1)) hx hb dX5_margin_6 (by decide) ?_
    refine zz_icmp_ne (tgt := 14) (a := -1) (b := -1) hx hb dX5_margin_7 (by decide) (by decide) (by decide) (fun c7 => ?_) (fun c7 => ?_)
    · exact absurd c7 (by omega)
    · refine lv_sipush (v := (-1004)) hx hb dX5_margin_10 (by decide) ?_
      exact zr_i hx hb hr hlk hQ dX5_margin_13 (by unfold marginV; rw [if_neg (by omega)])
theorem qX5_wastedTrials_Cond_fieldLink_RX5_10_NestedCodes_state_LNestedCodes_State_ : Cond.fieldLink RX5 10 "NestedCodes" "state" "LNestedCodes$State;" ∈ wsX5_wastedTrials := by decide +kernel
theorem qX5_wastedTrials_inX5 : ∀ w ∈ wsX50, w ∈ wsX5_wastedTrials := by decide +kernel
theorem qX5_wastedTrials_Cond_initialized_RX4 : Cond.initialized RX4 ∈ wsX5_wastedTrials := by decide +kernel
theorem qX5_wastedTrials_Cond_instanceMethod_yX4_outerDistance : Cond.instanceMethod yX4_outerDistance ∈ wsX5_wastedTrials := by decide +kernel
theorem qX5_wastedTrials_Cond_selects_RX4_yX4_outerDistance_yX4_outerDistance : Cond.selects RX4 yX4_outerDistance yX4_outerDistance ∈ wsX5_wastedTrials := by decide +kernel
theorem qX5_wastedTrials_Cond_fieldLink_RX5_33_NestedCodes_outer_LNestedCodes_OuterCode_ : Cond.fieldLink RX5 33 "NestedCodes" "outer" "LNestedCodes$OuterCode;" ∈ wsX5_wastedTrials := by decide +kernel
theorem qX5_wastedTrials_Cond_initialized_RX2 : Cond.initialized RX2 ∈ wsX5_wastedTrials := by decide +kernel
theorem qX5_wastedTrials_Cond_instanceMethod_yX2_codeword : Cond.instanceMethod yX2_codeword ∈ wsX5_wastedTrials := by decide +kernel
theorem qX5_wastedTrials_Cond_selects_RX2_yX2_codeword_yX2_codeword : Cond.selects RX2 yX2_codeword yX2_codeword ∈ wsX5_wastedTrials := by decide +kernel
theorem qX5_wastedTrials_Cond_fieldLink_RX5_40_NestedCodes_reading_LNestedCodes_Reading_ : Cond.fieldLink RX5 40 "NestedCodes" "reading" "LNestedCodes$Reading;" ∈ wsX5_wastedTrials := by decide +kernel
theorem qX5_wastedTrials_Cond_initialized_RX3 : Cond.initialized RX3 ∈ wsX5_wastedTrials := by decide +kernel
theorem qX5_wastedTrials_Cond_instanceMethod_yX3_keptBlocks : Cond.instanceMethod yX3_keptBlocks ∈ wsX5_wastedTrials := by decide +kernel
theorem qX5_wastedTrials_Cond_selects_RX3_yX3_keptBlocks_yX3_keptBlocks : Cond.selects RX3 yX3_keptBlocks yX3_keptBlocks ∈ wsX5_wastedTrials := by decide +kernel
set_option maxHeartbeats 4000000 in
set_option maxRecDepth 100000 in
theorem c_X5_wastedTrials (l : Launch) (D : va_G) (Y : Nat → ClassId) (A : Nat → Nat) (B : Nat → Nat) (σ : Nat → Nat) (hn : Nat) (h : Nat → Nat → Nat) (r0 : Nat → Nat) (r1 : Nat → Nat) (r2 : Nat → Nat) (r3 : Nat → Nat) (r4 : Nat → Nat) (wt : Nat → Nat) (wn : Nat)   (kσ : zWF σ) (kr : zCon σ r0 r1 r2 r3 r4) : Met l yX5_wastedTrials wsX5_wastedTrials ({ frames := 4, cells := 0, slots := 0, locals := 98 } : Room) (va_Pc [.ref (A 0)] (zB D Y (CX Y A B σ hn h (wdS σ) (ddS σ) r0 r1 r2 r3 r4 (σ 0) (pak (itC (wdS σ) σ) (σ 0)) (mkP (fun k9 => decide (k9 < σ 0))) wt wn))) (zR (.int (wastedV σ))) 0 0 (fun _ => False) := by
  refine zr_of (cc := cX5_wastedTrials) (maxL := 5) (ret := (some .int)) (by decide) rfl (Nat.le_of_ble_eq_true rfl) ?_
  intro p e s m below meth c R args Q hR hx hb hml hr hlk hown hts hK hN hP hQ ls hl
  have hown : s.vm.findClass RX5 = some m.cls := hown
  have hl : lv_has ls 5 [(0, .ref (A 0))] := hl
  have kw := kσ
  obtain ⟨n3, n12, d1, d3, dn, b4, b10, gl, lm, sn, wl, wnz⟩ := kw
  have pb := zp_b b10
  have pk9 := zp_k d3
  have hpak : pak (itC (wdS σ) σ) (σ 0) < 281474976710656 := Nat.lt_of_lt_of_le (pak_lt (fun j _ => itC_lt _ _ j)) (show 2 ^ (4 * σ 0) ≤ 2 ^ 48 from Nat.pow_le_pow_right (by decide) (by omega))
  have hbar := barS_le kσ
  refine lv_aload_n hx hb dX5_wastedTrials_0 rfl (lv_at hl 0 rfl) ?_
  refine va_get (D := D) (ci := 5) (v := .ref (A 1)) (C := RX5) (T := TX5) (N := 7) hx hb hts qX5_wastedTrials_inX5 hown hK hP 0 rfl rfl 0 (by decide) (hts _ qX5_wastedTrials_Cond_fieldLink_RX5_10_NestedCodes_state_LNestedCodes_State_) (fun _ h9 => h9) rfl dX5_wastedTrials_1 ?_
  refine zc_r (va_runVN (C := RX4) (As := []) (rest := []) ⟨hx, hb, hml, hown, hts⟩ (c_X4_outerDistance l D Y A B σ hn h (wdS σ) (ddS σ) r0 r1 r2 r3 r4 (σ 0) (pak (itC (wdS σ) σ) (σ 0)) (mkP (fun k9 => decide (k9 < σ 0))) wt wn  kσ) ⟨(va_cnB 0 hts gX5_wastedTrials_X4_outerDistance_n87 rfl rfl rfl (kM_X5_87 hN) (hts _ qX5_wastedTrials_Cond_initialized_RX4) (by decide +kernel) (by rw [hR]; exact ⟨Nat.le_of_ble_eq_true rfl, Nat.le_of_ble_eq_true rfl⟩)), (hts _ qX5_wastedTrials_Cond_instanceMethod_yX4_outerDistance), (hts _ qX5_wastedTrials_Cond_selects_RX4_yX4_outerDistance_yX4_outerDistance)⟩ ⟨zB_blind, va_recv hK hP (ci := 4) (q0 := 1) rfl rfl, zp_r hP hK hN⟩ rfl rfl hl.1 rfl (lv_room (Nat.le_of_ble_eq_true rfl)) dX5_wastedTrials_4 ⟨Nat.zero_le _, Nat.zero_le _⟩).run ?_
  refine lv_istore_n (lv' := [(1, .int (nI (σ 0 - σ 1 + 1))), (0, .ref (A 0))]) hx hb dX5_wastedTrials_7 rfl hl (by decide) rfl (fun ls hl => ?_)
  refine lv_aload_n hx hb dX5_wastedTrials_8 rfl (lv_at hl 1 rfl) ?_
  refine zc_r (va_runV (As := []) (rest := []) ⟨hx, hb, hml, hown, hts⟩ (c_X5_lawfulMessage l D Y A B σ hn h r0 r1 r2 r3 r4 wt wn  kσ kr) (cwV 0 hts gX5_wastedTrials_X5_lawfulMessage rfl rfl rfl (by decide +kernel) (by rw [hR]; exact ⟨Nat.le_of_ble_eq_true rfl, Nat.le_of_ble_eq_true rfl⟩)) ⟨zB_blind, va_recv hK hP (ci := 5) (q0 := 0) rfl rfl, zp_r hP hK hN⟩ rfl rfl hl.1 rfl (lv_room (Nat.le_of_ble_eq_true rfl)) dX5_wastedTrials_9 ⟨Nat.zero_le _, Nat.zero_le _⟩).run ?_
  rcases Nat.lt_or_ge (lawM σ) (nMs σ) with hlm | hlm
  · have hlm2 : lawM σ < 2 ^ (4 * σ 1) := hlm
    refine zt_i (v := (nI (lawM σ))) (if_pos hlm) ?_
    refine lv_istore_n (lv' := [(2, .int (nI (lawM σ))), (1, .int (nI (σ 0 - σ 1 + 1))), (0, .ref (A 0))]) hx hb dX5_wastedTrials_12 rfl hl (by decide) rfl (fun ls hl => ?_)
    refine lv_iload_n hx hb dX5_wastedTrials_13 rfl (lv_at hl 0 rfl) ?_
    refine lv_iconst (v := (-1)) hx hb dX5_wastedTrials_14 (by decide) ?_
    refine zz_icmp_ne (tgt := 20) (a := (((lawM σ : Nat)) : Int)) (b := -1) hx hb dX5_wastedTrials_15 (by decide) (zt_n (by omega)) (by decide) (fun c15 => ?_) (fun c15 => ?_)
    · refine lv_iconst (v := (nI 0)) hx hb dX5_wastedTrials_20 (by decide) ?_
      refine lv_istore_n (lv' := [(3, .int (nI 0)), (2, .int (nI (lawM σ))), (1, .int (nI (σ 0 - σ 1 + 1))), (0, .ref (A 0))]) hx hb dX5_wastedTrials_21 rfl hl (by decide) rfl (fun ls hl => ?_)
      refine lv_iconst (v := (nI 0)) hx hb dX5_wastedTrials_22 (by decide) ?_
      refine lv_istore (lv' := [(4, .int (nI 0)), (3, .int (nI 0)), (2, .int (nI (lawM σ))), (1, .int (nI (σ 0 - σ 1 + 1))), (0, .ref (A 0))]) hx hb dX5_wastedTrials_23 hl (by decide) rfl (fun ls hl => ?_)
      have L25 : ∀ (n9 : Nat) (i : Nat) (hi : i ≤ σ 0 - σ 1 + 1), σ 0 - σ 1 + 1 - i < n9 → ∀ ls : Array Slot, lv_has ls 5 [(4, .int (nI i)), (3, .int (nI (cnt (fun s => !resB σ s (lawM σ)) i))), (2, .int (nI (lawM σ))), (1, .int (nI (σ 0 - σ 1 + 1))), (0, .ref (A 0))] → W p l e R s m args below meth c s.heap [] 0 0 Q (F0 m 25 ls []) := by
        intro n9
        induction n9 with
        | zero => intro i hi hn9; exact absurd hn9 (Nat.not_lt_zero _)
        | succ n9 ih9 =>
          have ih25 := ih9
          clear ih9
          intro i hi hn9 ls hl
          have hcn := cnt_le (fun s => !resB σ s (lawM σ)) i
          refine lv_iload hx hb dX5_wastedTrials_25 (lv_at hl 0 rfl) ?_
          refine lv_iload_n hx hb dX5_wastedTrials_27 rfl (lv_at hl 3 rfl) ?_
          refine zn_icmp_ge (tgt := 66)  hx hb dX5_wastedTrials_28 (by decide) (by omega) (by omega) (fun c28 => ?_) (fun c28 => ?_)
          · obtain rfl : i = σ 0 - σ 1 + 1 := by omega
            refine lv_iload_n hx hb dX5_wastedTrials_66 rfl (lv_at hl 1 rfl) ?_
            exact zr_i hx hb hr hlk hQ dX5_wastedTrials_67 (by unfold wastedV; rw [if_pos hlm])
          · refine lv_aload_n hx hb dX5_wastedTrials_31 rfl (lv_at hl 4 rfl) ?_
            refine lv_aload_n hx hb dX5_wastedTrials_32 rfl (lv_at hl 4 rfl) ?_
            refine va_get (D := D) (ci := 5) (v := .ref (A 9)) (C := RX5) (T := TX5) (N := 7) hx hb hts qX5_wastedTrials_inX5 hown hK hP 0 rfl rfl 3 (by decide) (hts _ qX5_wastedTrials_Cond_fieldLink_RX5_33_NestedCodes_outer_LNestedCodes_OuterCode_) (fun _ h9 => h9) rfl dX5_wastedTrials_33 ?_
            refine lv_iload_n hx hb dX5_wastedTrials_36 rfl (lv_at hl 2 rfl) ?_
            refine zc_r (va_runVN (C := RX2) (As := [.int (nI (lawM σ))]) (rest := [.ref (A 0)]) ⟨hx, hb, hml, hown, hts⟩ (c_X2_codeword l D Y A B σ hn h (wdS σ) (ddS σ) r0 r1 r2 r3 r4 (σ 0) (pak (itC (wdS σ) σ) (σ 0)) (mkP (fun k9 => decide (k9 < σ 0))) wt wn (lawM σ) (by omega)) ⟨(va_cnB 1 hts gX5_wastedTrials_X2_codeword_n114 rfl rfl rfl (kM_X5_114 hN) (hts _ qX5_wastedTrials_Cond_initialized_RX2) (by decide +kernel) (by rw [hR]; exact ⟨Nat.le_of_ble_eq_true rfl, Nat.le_of_ble_eq_true rfl⟩)), (hts _ qX5_wastedTrials_Cond_instanceMethod_yX2_codeword), (hts _ qX5_wastedTrials_Cond_selects_RX2_yX2_codeword_yX2_codeword)⟩ ⟨zB_blind, va_recv hK hP (ci := 2) (q0 := 9) rfl rfl, zp_r hP hK hN⟩ rfl rfl hl.1 rfl (lv_room (Nat.le_of_ble_eq_true rfl)) dX5_wastedTrials_37 ⟨Nat.zero_le _, Nat.zero_le _⟩).run ?_
            refine lv_iload hx hb dX5_wastedTrials_40 (lv_at hl 0 rfl) ?_
            refine lv_aload_n hx hb dX5_wastedTrials_42 rfl (lv_at hl 4 rfl) ?_
            refine va_get (D := D) (ci := 5) (v := .ref (A 11)) (C := RX5) (T := TX5) (N := 7) hx hb hts qX5_wastedTrials_inX5 hown hK hP 0 rfl rfl 4 (by decide) (hts _ qX5_wastedTrials_Cond_fieldLink_RX5_40_NestedCodes_reading_LNestedCodes_Reading_) (fun _ h9 => h9) rfl dX5_wastedTrials_43 ?_
            refine lv_iload hx hb dX5_wastedTrials_46 (lv_at hl 0 rfl) ?_
            refine zc_r (va_runVN (C := RX3) (As := [.int (nI i)]) (rest := [.int (nI i), .long (lN (zcwP (lawM σ))), .ref (A 0)]) ⟨hx, hb, hml, hown, hts⟩ (c_X3_keptBlocks l D Y A B σ hn h (wdS σ) (ddS σ) r0 r1 r2 r3 r4 (σ 0) (pak (itC (wdS σ) σ) (σ 0)) (mkP (fun k9 => decide (k9 < σ 0))) wt wn i (by omega) n12 (fun j hj => Nat.lt_of_lt_of_le (kr j hj).2.2.2.2.1 n12) rfl) ⟨(va_cnB 1 hts gX5_wastedTrials_X3_keptBlocks_n173 rfl rfl rfl (kM_X5_173 hN) (hts _ qX5_wastedTrials_Cond_initialized_RX3) (by decide +kernel) (by rw [hR]; exact ⟨Nat.le_of_ble_eq_true rfl, Nat.le_of_ble_eq_true rfl⟩)), (hts _ qX5_wastedTrials_Cond_instanceMethod_yX3_keptBlocks), (hts _ qX5_wastedTrials_Cond_selects_RX3_yX3_keptBlocks_yX3_keptBlocks)⟩ ⟨zB_blind, va_recv hK hP (ci := 3) (q0 := 11) rfl rfl, zp_r hP hK hN⟩ rfl rfl hl.1 rfl (lv_room (Nat.le_of_ble_eq_true rfl)) dX5_wastedTrials_48 ⟨Nat.zero_le _, Nat.zero_le _⟩).run ?_
            refine zt_l (v := (lN (mkP (kpB σ i)))) (by rw [show min i (σ 0) = i from by omega]; exact congrArg lN (mkP_cong (fun j _ => kp_ok kr i (by omega) j))) ?_
            refine zc_r (va_runV (As := [.long (lN (zcwP (lawM σ))), .int (nI i), .long (lN (mkP (kpB σ i)))]) (rest := []) ⟨hx, hb, hml, hown, hts⟩ (c_X5_isResult l D Y A B σ hn h r0 r1 r2 r3 r4 wt wn (zcwP (lawM σ)) i (mkP (kpB σ i)) (lawM σ) (kpB σ i) kσ kr rfl (by omega) rfl (by omega)) (cwV 3 hts gX5_wastedTrials_X5_isResult rfl rfl rfl (by decide +kernel) (by rw [hR]; exact ⟨Nat.le_of_ble_eq_true rfl, Nat.le_of_ble_eq_true rfl⟩)) ⟨zB_blind, va_recv hK hP (ci := 5) (q0 := 0) rfl rfl, zp_r hP hK hN⟩ rfl rfl hl.1 rfl (lv_room (Nat.le_of_ble_eq_true rfl)) dX5_wastedTrials_51 ⟨Nat.zero_le _, Nat.zero_le _⟩).run ?_
            refine zb_if_ne (tgt := 60)  hx hb dX5_wastedTrials_54 (by decide)  (fun c54 => ?_) (fun c54 => ?_)
            · refine lv_iinc (v := (nI (i + 1))) (lv' := [(4, .int (nI (i + 1))), (3, .int (nI (cnt (fun s => !resB σ s (lawM σ)) i))), (2, .int (nI (lawM σ))), (1, .int (nI (σ 0 - σ 1 + 1))), (0, .ref (A 0))]) hx hb dX5_wastedTrials_60 hl (k := 0) rfl (zinc _) (by decide) rfl (fun ls hl => ?_)
              refine lv_goto (tgt := 25) hx hb dX5_wastedTrials_63 (by decide) ?_
              rw [show (.int (nI (cnt (fun s => !resB σ s (lawM σ)) i)) : Value) = .int (nI (cnt (fun s => !resB σ s (lawM σ)) (i + 1))) from congrArg _ (congrArg nI (show _ = cnt (fun s => !resB σ s (lawM σ)) i + b01 (!resB σ i (lawM σ)) from by rw [show resB σ i (lawM σ) = true from decide_eq_true c54]; rfl))] at hl
              exact ih25 (i + 1) (by omega) (by omega) ls (lv_sub hl [0, 1, 2, 3, 4] rfl)
            · refine lv_iinc (v := (nI (cnt (fun s => !resB σ s (lawM σ)) i + 1))) (lv' := [(3, .int (nI (cnt (fun s => !resB σ s (lawM σ)) i + 1))), (4, .int (nI i)), (2, .int (nI (lawM σ))), (1, .int (nI (σ 0 - σ 1 + 1))), (0, .ref (A 0))]) hx hb dX5_wastedTrials_57 hl (k := 1) rfl (zinc _) (by decide) rfl (fun ls hl => ?_)
              refine lv_iinc (v := (nI (i + 1))) (lv' := [(4, .int (nI (i + 1))), (3, .int (nI (cnt (fun s => !resB σ s (lawM σ)) i + 1))), (2, .int (nI (lawM σ))), (1, .int (nI (σ 0 - σ 1 + 1))), (0, .ref (A 0))]) hx hb dX5_wastedTrials_60 hl (k := 1) rfl (zinc _) (by decide) rfl (fun ls hl => ?_)
              refine lv_goto (tgt := 25) hx hb dX5_wastedTrials_63 (by decide) ?_
              rw [show (.int (nI (cnt (fun s => !resB σ s (lawM σ)) i + 1)) : Value) = .int (nI (cnt (fun s => !resB σ s (lawM σ)) (i + 1))) from congrArg _ (congrArg nI (show _ = cnt (fun s => !resB σ s (lawM σ)) i + b01 (!resB σ i (lawM σ)) from by rw [show resB σ i (lawM σ) = false from decide_eq_false c54]; rfl))] at hl
              exact ih25 (i + 1) (by omega) (by omega) ls (lv_sub hl [0, 1, 2, 3, 4] rfl)
      exact L25 (σ 0 - σ 1 + 1 - 0 + 1) 0 (by omega) (Nat.lt_succ_self _) ls (lv_sub hl [0, 1, 2, 3, 4] rfl)
    · exact absurd c15 (by omega)
  · refine zt_i (v := (-1)) (if_neg (by omega)) ?_
    refine lv_istore_n (lv' := [(2, .int (-1)), (1, .int (nI (σ 0 - σ 1 + 1))), (0, .ref (A 0))]) hx hb dX5_wastedTrials_12 rfl hl (by decide) rfl (fun ls hl => ?_)
    refine lv_iload_n hx hb dX5_wastedTrials_13 rfl (lv_at hl 0 rfl) ?_
    refine lv_iconst (v := (-1)) hx hb dX5_wastedTrials_14 (by decide) ?_
    refine zz_icmp_ne (tgt := 20) (a := -1) (b := -1) hx hb dX5_wastedTrials_15 (by decide) (by decide) (by decide) (fun c15 => ?_) (fun c15 => ?_)
    · exact absurd c15 (by omega)
    · refine lv_iload_n hx hb dX5_wastedTrials_18 rfl (lv_at hl 1 rfl) ?_
      exact zr_i hx hb hr hlk hQ dX5_wastedTrials_19 (by unfold wastedV; rw [if_neg (by omega)])
theorem qX5_isGuaranteed_Cond_fieldLink_RX5_26_NestedCodes_inner_LNestedCodes_InnerCode_ : Cond.fieldLink RX5 26 "NestedCodes" "inner" "LNestedCodes$InnerCode;" ∈ wsX5_isGuaranteed := by decide +kernel
theorem qX5_isGuaranteed_inX5 : ∀ w ∈ wsX50, w ∈ wsX5_isGuaranteed := by decide +kernel
theorem qX5_isGuaranteed_inX1 : ∀ w ∈ wsX10, w ∈ wsX5_isGuaranteed := by decide +kernel
theorem qX5_isGuaranteed_Cond_fieldLink_RX5_10_NestedCodes_state_LNestedCodes_State_ : Cond.fieldLink RX5 10 "NestedCodes" "state" "LNestedCodes$State;" ∈ wsX5_isGuaranteed := by decide +kernel
theorem qX5_isGuaranteed_Cond_initialized_RX4 : Cond.initialized RX4 ∈ wsX5_isGuaranteed := by decide +kernel
theorem qX5_isGuaranteed_Cond_instanceMethod_yX4_outerDistance : Cond.instanceMethod yX4_outerDistance ∈ wsX5_isGuaranteed := by decide +kernel
theorem qX5_isGuaranteed_Cond_selects_RX4_yX4_outerDistance_yX4_outerDistance : Cond.selects RX4 yX4_outerDistance yX4_outerDistance ∈ wsX5_isGuaranteed := by decide +kernel
set_option maxHeartbeats 4000000 in
set_option maxRecDepth 100000 in
theorem c_X5_isGuaranteed (l : Launch) (D : va_G) (Y : Nat → ClassId) (A : Nat → Nat) (B : Nat → Nat) (σ : Nat → Nat) (hn : Nat) (h : Nat → Nat → Nat) (r0 : Nat → Nat) (r1 : Nat → Nat) (r2 : Nat → Nat) (r3 : Nat → Nat) (r4 : Nat → Nat) (wt : Nat → Nat) (wn : Nat)   (kσ : zWF σ) (kr : zCon σ r0 r1 r2 r3 r4) : Met l yX5_isGuaranteed wsX5_isGuaranteed ({ frames := 3, cells := 0, slots := 0, locals := 67 } : Room) (va_Pc [.ref (A 0)] (zB D Y (CX Y A B σ hn h (wdS σ) (ddS σ) r0 r1 r2 r3 r4 (σ 0) (pak (itC (wdS σ) σ) (σ 0)) (mkP (fun k9 => decide (k9 < σ 0))) wt wn))) (zR (.int (guarV σ))) 0 0 (fun _ => False) := by
  refine zr_of (cc := cX5_isGuaranteed) (maxL := 2) (ret := (some .int)) (by decide) rfl (Nat.le_of_ble_eq_true rfl) ?_
  intro p e s m below meth c R args Q hR hx hb hml hr hlk hown hts hK hN hP hQ ls hl
  have hown : s.vm.findClass RX5 = some m.cls := hown
  have hl : lv_has ls 2 [(0, .ref (A 0))] := hl
  have kw := kσ
  obtain ⟨n3, n12, d1, d3, dn, b4, b10, gl, lm, sn, wl, wnz⟩ := kw
  have pb := zp_b b10
  have pk9 := zp_k d3
  have hpak : pak (itC (wdS σ) σ) (σ 0) < 281474976710656 := Nat.lt_of_lt_of_le (pak_lt (fun j _ => itC_lt _ _ j)) (show 2 ^ (4 * σ 0) ≤ 2 ^ 48 from Nat.pow_le_pow_right (by decide) (by omega))
  have hbar := barS_le kσ
  refine lv_iconst (v := (nI 2)) hx hb dX5_isGuaranteed_0 (by decide) ?_
  refine lv_aload_n hx hb dX5_isGuaranteed_1 rfl (lv_at hl 0 rfl) ?_
  refine zc_r (va_runV (As := []) (rest := [.int (nI 2)]) ⟨hx, hb, hml, hown, hts⟩ (c_X5_wrongBits l D Y A B σ hn h (wdS σ) (ddS σ) r0 r1 r2 r3 r4 (σ 0) (pak (itC (wdS σ) σ) (σ 0)) (mkP (fun k9 => decide (k9 < σ 0))) wt wn  kσ (fun j _ => zwd_1024 kσ j)) (cwV 0 hts gX5_isGuaranteed_X5_wrongBits rfl rfl rfl (by decide +kernel) (by rw [hR]; exact ⟨Nat.le_of_ble_eq_true rfl, Nat.le_of_ble_eq_true rfl⟩)) ⟨zB_blind, va_recv hK hP (ci := 5) (q0 := 0) rfl rfl, zp_r hP hK hN⟩ rfl rfl hl.1 rfl (lv_room (Nat.le_of_ble_eq_true rfl)) dX5_isGuaranteed_2 ⟨Nat.zero_le _, Nat.zero_le _⟩).run ?_
  have hw2 := wrN_le (wdS σ) σ (σ 0)
  refine zv_imul hx hb (v := (nI (2 * (wrN (wdS σ) σ (σ 0))))) dX5_isGuaranteed_5 (pk_mul _ _) ?_
  refine lv_aload_n hx hb dX5_isGuaranteed_6 rfl (lv_at hl 0 rfl) ?_
  refine va_get (D := D) (ci := 5) (v := .ref (A 7)) (C := RX5) (T := TX5) (N := 7) hx hb hts qX5_isGuaranteed_inX5 hown hK hP 0 rfl rfl 2 (by decide) (hts _ qX5_isGuaranteed_Cond_fieldLink_RX5_26_NestedCodes_inner_LNestedCodes_InnerCode_) (fun _ h9 => h9) rfl dX5_isGuaranteed_7 ?_
  refine va_getN (D := D) (ci := 1) (v := .int (nI (ddS σ))) (C := RX1) (T := TX1) (N := 2) hx hb hts qX5_isGuaranteed_inX1 hown hK hP 7 rfl rfl 1 (by decide) (kN_X5_78 hN) (fun _ h9 => h9) rfl dX5_isGuaranteed_10 ?_
  refine lv_aload_n hx hb dX5_isGuaranteed_13 rfl (lv_at hl 0 rfl) ?_
  refine zc_r (va_runV (As := []) (rest := [.int (nI (ddS σ)), .int (nI (2 * (wrN (wdS σ) σ (σ 0))))]) ⟨hx, hb, hml, hown, hts⟩ (c_X5_lostBlocks l D Y A B σ hn h (wdS σ) (ddS σ) r0 r1 r2 r3 r4 (σ 0) (pak (itC (wdS σ) σ) (σ 0)) (mkP (fun k9 => decide (k9 < σ 0))) wt wn  n12) (cwV 0 hts gX5_isGuaranteed_X5_lostBlocks rfl rfl rfl (by decide +kernel) (by rw [hR]; exact ⟨Nat.le_of_ble_eq_true rfl, Nat.le_of_ble_eq_true rfl⟩)) ⟨zB_blind, va_recv hK hP (ci := 5) (q0 := 0) rfl rfl, zp_r hP hK hN⟩ rfl rfl hl.1 rfl (lv_room (Nat.le_of_ble_eq_true rfl)) dX5_isGuaranteed_14 ⟨Nat.zero_le _, Nat.zero_le _⟩).run ?_
  have hl14 := lostN_le σ (σ 0)
  refine zv_imul hx hb (v := (nI ((ddS σ) * (lostN σ (σ 0))))) dX5_isGuaranteed_17 (pk_mul _ _) ?_
  refine zv_iadd hx hb (v := (nI ((2 * (wrN (wdS σ) σ (σ 0))) + ((ddS σ) * (lostN σ (σ 0)))))) dX5_isGuaranteed_18 (nI_add _ _) ?_
  refine lv_istore_n (lv' := [(1, .int (nI ((2 * (wrN (wdS σ) σ (σ 0))) + ((ddS σ) * (lostN σ (σ 0)))))), (0, .ref (A 0))]) hx hb dX5_isGuaranteed_19 rfl hl (by decide) rfl (fun ls hl => ?_)
  refine lv_iload_n hx hb dX5_isGuaranteed_20 rfl (lv_at hl 0 rfl) ?_
  refine lv_aload_n hx hb dX5_isGuaranteed_21 rfl (lv_at hl 1 rfl) ?_
  refine va_get (D := D) (ci := 5) (v := .ref (A 7)) (C := RX5) (T := TX5) (N := 7) hx hb hts qX5_isGuaranteed_inX5 hown hK hP 0 rfl rfl 2 (by decide) (hts _ qX5_isGuaranteed_Cond_fieldLink_RX5_26_NestedCodes_inner_LNestedCodes_InnerCode_) (fun _ h9 => h9) rfl dX5_isGuaranteed_22 ?_
  refine va_getN (D := D) (ci := 1) (v := .int (nI (ddS σ))) (C := RX1) (T := TX1) (N := 2) hx hb hts qX5_isGuaranteed_inX1 hown hK hP 7 rfl rfl 1 (by decide) (kN_X5_78 hN) (fun _ h9 => h9) rfl dX5_isGuaranteed_25 ?_
  refine lv_aload_n hx hb dX5_isGuaranteed_28 rfl (lv_at hl 1 rfl) ?_
  refine va_get (D := D) (ci := 5) (v := .ref (A 1)) (C := RX5) (T := TX5) (N := 7) hx hb hts qX5_isGuaranteed_inX5 hown hK hP 0 rfl rfl 0 (by decide) (hts _ qX5_isGuaranteed_Cond_fieldLink_RX5_10_NestedCodes_state_LNestedCodes_State_) (fun _ h9 => h9) rfl dX5_isGuaranteed_29 ?_
  refine zc_r (va_runVN (C := RX4) (As := []) (rest := [.int (nI (ddS σ)), .int (nI ((2 * (wrN (wdS σ) σ (σ 0))) + ((ddS σ) * (lostN σ (σ 0)))))]) ⟨hx, hb, hml, hown, hts⟩ (c_X4_outerDistance l D Y A B σ hn h (wdS σ) (ddS σ) r0 r1 r2 r3 r4 (σ 0) (pak (itC (wdS σ) σ) (σ 0)) (mkP (fun k9 => decide (k9 < σ 0))) wt wn  kσ) ⟨(va_cnB 0 hts gX5_isGuaranteed_X4_outerDistance_n87 rfl rfl rfl (kM_X5_87 hN) (hts _ qX5_isGuaranteed_Cond_initialized_RX4) (by decide +kernel) (by rw [hR]; exact ⟨Nat.le_of_ble_eq_true rfl, Nat.le_of_ble_eq_true rfl⟩)), (hts _ qX5_isGuaranteed_Cond_instanceMethod_yX4_outerDistance), (hts _ qX5_isGuaranteed_Cond_selects_RX4_yX4_outerDistance_yX4_outerDistance)⟩ ⟨zB_blind, va_recv hK hP (ci := 4) (q0 := 1) rfl rfl, zp_r hP hK hN⟩ rfl rfl hl.1 rfl (lv_room (Nat.le_of_ble_eq_true rfl)) dX5_isGuaranteed_32 ⟨Nat.zero_le _, Nat.zero_le _⟩).run ?_
  refine zv_imul hx hb (v := (nI ((ddS σ) * (σ 0 - σ 1 + 1)))) dX5_isGuaranteed_35 (pk_mul _ _) ?_
  have hm1 : ddS σ * lostN σ (σ 0) ≤ 10 * 12 := Nat.mul_le_mul (dd_le σ) (Nat.le_trans hl14 n12)
  have hm2 : ddS σ * (σ 0 - σ 1 + 1) ≤ 10 * 12 := Nat.mul_le_mul (dd_le σ) (by omega)
  refine zn_icmp_ge (tgt := 43)  hx hb dX5_isGuaranteed_36 (by decide) (by omega) (by omega) (fun c36 => ?_) (fun c36 => ?_)
  · refine lv_iconst (v := (nI 0)) hx hb dX5_isGuaranteed_43 (by decide) ?_
    exact zr_i hx hb hr hlk hQ dX5_isGuaranteed_44 (by unfold guarV; rw [if_neg (by omega)])
  · refine lv_iconst (v := (nI 1)) hx hb dX5_isGuaranteed_39 (by decide) ?_
    refine lv_goto (tgt := 44) hx hb dX5_isGuaranteed_40 (by decide) ?_
    exact zr_i hx hb hr hlk hQ dX5_isGuaranteed_44 (by unfold guarV; rw [if_pos (by omega)])
theorem qX5_fragileBits_Cond_fieldLink_RX5_10_NestedCodes_state_LNestedCodes_State_ : Cond.fieldLink RX5 10 "NestedCodes" "state" "LNestedCodes$State;" ∈ wsX5_fragileBits := by decide +kernel
theorem qX5_fragileBits_inX5 : ∀ w ∈ wsX50, w ∈ wsX5_fragileBits := by decide +kernel
theorem qX5_fragileBits_inX4 : ∀ w ∈ wsX40, w ∈ wsX5_fragileBits := by decide +kernel
set_option maxHeartbeats 4000000 in
set_option maxRecDepth 100000 in
theorem c_X5_fragileBits (l : Launch) (D : va_G) (Y : Nat → ClassId) (A : Nat → Nat) (B : Nat → Nat) (σ : Nat → Nat) (hn : Nat) (h : Nat → Nat → Nat) (r0 : Nat → Nat) (r1 : Nat → Nat) (r2 : Nat → Nat) (r3 : Nat → Nat) (r4 : Nat → Nat) (wt : Nat → Nat) (wn : Nat)   (kσ : zWF σ) (kr : zCon σ r0 r1 r2 r3 r4) : Met l yX5_fragileBits wsX5_fragileBits ({ frames := 4, cells := 0, slots := 0, locals := 101 } : Room) (va_Pc [.ref (A 0)] (zB D Y (CX Y A B σ hn h (wdS σ) (ddS σ) r0 r1 r2 r3 r4 (σ 0) (pak (itC (wdS σ) σ) (σ 0)) (mkP (fun k9 => decide (k9 < σ 0))) wt wn))) (zR (.int (nI (frbI σ (σ 0))))) 0 0 (fun _ => False) := by
  refine zr_of (cc := cX5_fragileBits) (maxL := 3) (ret := (some .int)) (by decide) rfl (Nat.le_of_ble_eq_true rfl) ?_
  intro p e s m below meth c R args Q hR hx hb hml hr hlk hown hts hK hN hP hQ ls hl
  have hown : s.vm.findClass RX5 = some m.cls := hown
  have hl : lv_has ls 3 [(0, .ref (A 0))] := hl
  have kw := kσ
  obtain ⟨n3, n12, d1, d3, dn, b4, b10, gl, lm, sn, wl, wnz⟩ := kw
  have pb := zp_b b10
  have pk9 := zp_k d3
  have hpak : pak (itC (wdS σ) σ) (σ 0) < 281474976710656 := Nat.lt_of_lt_of_le (pak_lt (fun j _ => itC_lt _ _ j)) (show 2 ^ (4 * σ 0) ≤ 2 ^ 48 from Nat.pow_le_pow_right (by decide) (by omega))
  have hbar := barS_le kσ
  refine lv_iconst (v := (nI 0)) hx hb dX5_fragileBits_0 (by decide) ?_
  refine lv_istore_n (lv' := [(1, .int (nI 0)), (0, .ref (A 0))]) hx hb dX5_fragileBits_1 rfl hl (by decide) rfl (fun ls hl => ?_)
  refine lv_iconst (v := (nI 0)) hx hb dX5_fragileBits_2 (by decide) ?_
  refine lv_istore_n (lv' := [(2, .int (nI 0)), (1, .int (nI 0)), (0, .ref (A 0))]) hx hb dX5_fragileBits_3 rfl hl (by decide) rfl (fun ls hl => ?_)
  have L4 : ∀ (n9 : Nat) (i : Nat) (hi : i ≤ σ 0), σ 0 - i < n9 → ∀ ls : Array Slot, lv_has ls 3 [(2, .int (nI i)), (1, .int (nI (frbI σ i))), (0, .ref (A 0))] → W p l e R s m args below meth c s.heap [] 0 0 Q (F0 m 4 ls []) := by
    intro n9
    induction n9 with
    | zero => intro i hi hn9; exact absurd hn9 (Nat.not_lt_zero _)
    | succ n9 ih9 =>
      have ih4 := ih9
      clear ih9
      intro i hi hn9 ls hl
      have hfl := frbI_le σ b10 i
      have hz := zL_01 (σ 7) i
      refine lv_iload_n hx hb dX5_fragileBits_4 rfl (lv_at hl 0 rfl) ?_
      refine lv_aload_n hx hb dX5_fragileBits_5 rfl (lv_at hl 2 rfl) ?_
      refine va_get (D := D) (ci := 5) (v := .ref (A 1)) (C := RX5) (T := TX5) (N := 7) hx hb hts qX5_fragileBits_inX5 hown hK hP 0 rfl rfl 0 (by decide) (hts _ qX5_fragileBits_Cond_fieldLink_RX5_10_NestedCodes_state_LNestedCodes_State_) (fun _ h9 => h9) rfl dX5_fragileBits_6 ?_
      refine va_getN (D := D) (ci := 4) (v := .int (nI (σ 0))) (C := RX4) (T := TX4) (N := 7) hx hb hts qX5_fragileBits_inX4 hown hK hP 1 rfl rfl 0 (by decide) (kN_X5_55 hN) (fun _ h9 => h9) rfl dX5_fragileBits_9 ?_
      refine zn_icmp_ge (tgt := 41)  hx hb dX5_fragileBits_12 (by decide) (by omega) (by omega) (fun c12 => ?_) (fun c12 => ?_)
      · obtain rfl : i = σ 0 := by omega
        refine lv_iload_n hx hb dX5_fragileBits_41 rfl (lv_at hl 1 rfl) ?_
        exact zr_i hx hb hr hlk hQ dX5_fragileBits_42 (rfl)
      · refine lv_aload_n hx hb dX5_fragileBits_15 rfl (lv_at hl 2 rfl) ?_
        refine va_get (D := D) (ci := 5) (v := .ref (A 1)) (C := RX5) (T := TX5) (N := 7) hx hb hts qX5_fragileBits_inX5 hown hK hP 0 rfl rfl 0 (by decide) (hts _ qX5_fragileBits_Cond_fieldLink_RX5_10_NestedCodes_state_LNestedCodes_State_) (fun _ h9 => h9) rfl dX5_fragileBits_16 ?_
        refine va_getN (D := D) (ci := 4) (v := .ref (A 4)) (C := RX4) (T := TX4) (N := 7) hx hb hts qX5_fragileBits_inX4 hown hK hP 1 rfl rfl 5 (by decide) (kN_X5_138 hN) (fun _ h9 => h9) rfl dX5_fragileBits_19 ?_
        refine lv_iload_n hx hb dX5_fragileBits_22 rfl (lv_at hl 0 rfl) ?_
        refine za_z hx hb hK hP 4 (f := fun k9 => nI (zL (σ 7) k9)) (v := (nI (zL (σ 7) i))) rfl (by omega) (by decide) dX5_fragileBits_23 (rfl) ?_
        refine zn_if_ne (tgt := 35)  hx hb dX5_fragileBits_24 (by decide) (by omega) (fun c24 => ?_) (fun c24 => ?_)
        · refine lv_iinc (v := (nI (i + 1))) (lv' := [(2, .int (nI (i + 1))), (1, .int (nI (frbI σ i))), (0, .ref (A 0))]) hx hb dX5_fragileBits_35 hl (k := 0) rfl (zinc _) (by decide) rfl (fun ls hl => ?_)
          refine lv_goto (tgt := 4) hx hb dX5_fragileBits_38 (by decide) ?_
          rw [show (.int (nI (frbI σ i)) : Value) = .int (nI (frbI σ (i + 1))) from congrArg _ (congrArg nI (show _ = frbI σ i + (if zL (σ 7) i = 1 then 0 else _) from by first | rw [if_pos (by omega), Nat.add_zero] | rw [if_neg (by omega)]))] at hl
          exact ih4 (i + 1) (by omega) (by omega) ls (lv_sub hl [0, 1, 2] rfl)
        · refine lv_iload_n hx hb dX5_fragileBits_27 rfl (lv_at hl 1 rfl) ?_
          refine lv_aload_n hx hb dX5_fragileBits_28 rfl (lv_at hl 2 rfl) ?_
          refine lv_iload_n hx hb dX5_fragileBits_29 rfl (lv_at hl 0 rfl) ?_
          refine zc_r (va_runV (As := [.int (nI i)]) (rest := [.int (nI (frbI σ i))]) ⟨hx, hb, hml, hown, hts⟩ (c_X5_fragileBitsOf l D Y A B σ hn h r0 r1 r2 r3 r4 wt wn i kσ kr (by omega)) (cwV 1 hts gX5_fragileBits_X5_fragileBitsOf rfl rfl rfl (by decide +kernel) (by rw [hR]; exact ⟨Nat.le_of_ble_eq_true rfl, Nat.le_of_ble_eq_true rfl⟩)) ⟨zB_blind, va_recv hK hP (ci := 5) (q0 := 0) rfl rfl, zp_r hP hK hN⟩ rfl rfl hl.1 rfl (lv_room (Nat.le_of_ble_eq_true rfl)) dX5_fragileBits_30 ⟨Nat.zero_le _, Nat.zero_le _⟩).run ?_
          have hcf30 := cnt_le (frbP σ i) (σ 2)
          refine zv_iadd hx hb (v := (nI ((frbI σ i) + (cnt (frbP σ i) (σ 2))))) dX5_fragileBits_33 (nI_add _ _) ?_
          refine lv_istore_n (lv' := [(1, .int (nI ((frbI σ i) + (cnt (frbP σ i) (σ 2))))), (2, .int (nI i)), (0, .ref (A 0))]) hx hb dX5_fragileBits_34 rfl hl (by decide) rfl (fun ls hl => ?_)
          refine lv_iinc (v := (nI (i + 1))) (lv' := [(2, .int (nI (i + 1))), (1, .int (nI ((frbI σ i) + (cnt (frbP σ i) (σ 2))))), (0, .ref (A 0))]) hx hb dX5_fragileBits_35 hl (k := 1) rfl (zinc _) (by decide) rfl (fun ls hl => ?_)
          refine lv_goto (tgt := 4) hx hb dX5_fragileBits_38 (by decide) ?_
          rw [show (.int (nI ((frbI σ i) + (cnt (frbP σ i) (σ 2)))) : Value) = .int (nI (frbI σ (i + 1))) from congrArg _ (congrArg nI (show _ = frbI σ i + (if zL (σ 7) i = 1 then 0 else _) from by first | rw [if_pos (by omega), Nat.add_zero] | rw [if_neg (by omega)]))] at hl
          exact ih4 (i + 1) (by omega) (by omega) ls (lv_sub hl [0, 1, 2] rfl)
  exact L4 (σ 0 - 0 + 1) 0 (by omega) (Nat.lt_succ_self _) ls (lv_sub hl [0, 1, 2] rfl)
theorem qX5_fragileBlocks_Cond_fieldLink_RX5_40_NestedCodes_reading_LNestedCodes_Reading_ : Cond.fieldLink RX5 40 "NestedCodes" "reading" "LNestedCodes$Reading;" ∈ wsX5_fragileBlocks := by decide +kernel
theorem qX5_fragileBlocks_inX5 : ∀ w ∈ wsX50, w ∈ wsX5_fragileBlocks := by decide +kernel
theorem qX5_fragileBlocks_Cond_fieldLink_RX5_33_NestedCodes_outer_LNestedCodes_OuterCode_ : Cond.fieldLink RX5 33 "NestedCodes" "outer" "LNestedCodes$OuterCode;" ∈ wsX5_fragileBlocks := by decide +kernel
theorem qX5_fragileBlocks_Cond_fieldLink_RX5_10_NestedCodes_state_LNestedCodes_State_ : Cond.fieldLink RX5 10 "NestedCodes" "state" "LNestedCodes$State;" ∈ wsX5_fragileBlocks := by decide +kernel
theorem qX5_fragileBlocks_inX4 : ∀ w ∈ wsX40, w ∈ wsX5_fragileBlocks := by decide +kernel
theorem qX5_fragileBlocks_Cond_initialized_RX2 : Cond.initialized RX2 ∈ wsX5_fragileBlocks := by decide +kernel
theorem qX5_fragileBlocks_Cond_instanceMethod_yX2_codeword : Cond.instanceMethod yX2_codeword ∈ wsX5_fragileBlocks := by decide +kernel
theorem qX5_fragileBlocks_Cond_selects_RX2_yX2_codeword_yX2_codeword : Cond.selects RX2 yX2_codeword yX2_codeword ∈ wsX5_fragileBlocks := by decide +kernel
theorem qX5_fragileBlocks_Cond_initialized_RX3 : Cond.initialized RX3 ∈ wsX5_fragileBlocks := by decide +kernel
theorem qX5_fragileBlocks_Cond_instanceMethod_yX3_scoreOf : Cond.instanceMethod yX3_scoreOf ∈ wsX5_fragileBlocks := by decide +kernel
theorem qX5_fragileBlocks_Cond_selects_RX3_yX3_scoreOf_yX3_scoreOf : Cond.selects RX3 yX3_scoreOf yX3_scoreOf ∈ wsX5_fragileBlocks := by decide +kernel
set_option maxHeartbeats 4000000 in
set_option maxRecDepth 100000 in
theorem c_X5_fragileBlocks (l : Launch) (D : va_G) (Y : Nat → ClassId) (A : Nat → Nat) (B : Nat → Nat) (σ : Nat → Nat) (hn : Nat) (h : Nat → Nat → Nat) (r0 : Nat → Nat) (r1 : Nat → Nat) (r2 : Nat → Nat) (r3 : Nat → Nat) (r4 : Nat → Nat) (wt : Nat → Nat) (wn : Nat)   (kσ : zWF σ) (kr : zCon σ r0 r1 r2 r3 r4) : Met l yX5_fragileBlocks wsX5_fragileBlocks ({ frames := 3, cells := 0, slots := 0, locals := 72 } : Room) (va_Pc [.ref (A 0)] (zB D Y (CX Y A B σ hn h (wdS σ) (ddS σ) r0 r1 r2 r3 r4 (σ 0) (pak (itC (wdS σ) σ) (σ 0)) (mkP (fun k9 => decide (k9 < σ 0))) wt wn))) (zR (.int (nI (frkI σ (σ 0))))) 0 0 (fun _ => False) := by
  refine zr_of (cc := cX5_fragileBlocks) (maxL := 4) (ret := (some .int)) (by decide) rfl (Nat.le_of_ble_eq_true rfl) ?_
  intro p e s m below meth c R args Q hR hx hb hml hr hlk hown hts hK hN hP hQ ls hl
  have hown : s.vm.findClass RX5 = some m.cls := hown
  have hl : lv_has ls 4 [(0, .ref (A 0))] := hl
  have kw := kσ
  obtain ⟨n3, n12, d1, d3, dn, b4, b10, gl, lm, sn, wl, wnz⟩ := kw
  have pb := zp_b b10
  have pk9 := zp_k d3
  have hpak : pak (itC (wdS σ) σ) (σ 0) < 281474976710656 := Nat.lt_of_lt_of_le (pak_lt (fun j _ => itC_lt _ _ j)) (show 2 ^ (4 * σ 0) ≤ 2 ^ 48 from Nat.pow_le_pow_right (by decide) (by omega))
  have hbar := barS_le kσ
  refine lv_aload_n hx hb dX5_fragileBlocks_0 rfl (lv_at hl 0 rfl) ?_
  refine va_get (D := D) (ci := 5) (v := .ref (A 11)) (C := RX5) (T := TX5) (N := 7) hx hb hts qX5_fragileBlocks_inX5 hown hK hP 0 rfl rfl 4 (by decide) (hts _ qX5_fragileBlocks_Cond_fieldLink_RX5_40_NestedCodes_reading_LNestedCodes_Reading_) (fun _ h9 => h9) rfl dX5_fragileBlocks_1 ?_
  refine lv_aload_n hx hb dX5_fragileBlocks_4 rfl (lv_at hl 0 rfl) ?_
  refine va_get (D := D) (ci := 5) (v := .ref (A 9)) (C := RX5) (T := TX5) (N := 7) hx hb hts qX5_fragileBlocks_inX5 hown hK hP 0 rfl rfl 3 (by decide) (hts _ qX5_fragileBlocks_Cond_fieldLink_RX5_33_NestedCodes_outer_LNestedCodes_OuterCode_) (fun _ h9 => h9) rfl dX5_fragileBlocks_5 ?_
  refine lv_aload_n hx hb dX5_fragileBlocks_8 rfl (lv_at hl 0 rfl) ?_
  refine va_get (D := D) (ci := 5) (v := .ref (A 1)) (C := RX5) (T := TX5) (N := 7) hx hb hts qX5_fragileBlocks_inX5 hown hK hP 0 rfl rfl 0 (by decide) (hts _ qX5_fragileBlocks_Cond_fieldLink_RX5_10_NestedCodes_state_LNestedCodes_State_) (fun _ h9 => h9) rfl dX5_fragileBlocks_9 ?_
  refine va_getN (D := D) (ci := 4) (v := .int (nI (σ 8))) (C := RX4) (T := TX4) (N := 7) hx hb hts qX5_fragileBlocks_inX4 hown hK hP 1 rfl rfl 6 (by decide) (kN_X5_122 hN) (fun _ h9 => h9) rfl dX5_fragileBlocks_12 ?_
  refine zc_r (va_runVN (C := RX2) (As := [.int (nI (σ 8))]) (rest := [.ref (A 11)]) ⟨hx, hb, hml, hown, hts⟩ (c_X2_codeword l D Y A B σ hn h (wdS σ) (ddS σ) r0 r1 r2 r3 r4 (σ 0) (pak (itC (wdS σ) σ) (σ 0)) (mkP (fun k9 => decide (k9 < σ 0))) wt wn (σ 8) (by omega)) ⟨(va_cnB 1 hts gX5_fragileBlocks_X2_codeword_n114 rfl rfl rfl (kM_X5_114 hN) (hts _ qX5_fragileBlocks_Cond_initialized_RX2) (by decide +kernel) (by rw [hR]; exact ⟨Nat.le_of_ble_eq_true rfl, Nat.le_of_ble_eq_true rfl⟩)), (hts _ qX5_fragileBlocks_Cond_instanceMethod_yX2_codeword), (hts _ qX5_fragileBlocks_Cond_selects_RX2_yX2_codeword_yX2_codeword)⟩ ⟨zB_blind, va_recv hK hP (ci := 2) (q0 := 9) rfl rfl, zp_r hP hK hN⟩ rfl rfl hl.1 rfl (lv_room (Nat.le_of_ble_eq_true rfl)) dX5_fragileBlocks_15 ⟨Nat.zero_le _, Nat.zero_le _⟩).run ?_
  refine zc_r (va_runVN (C := RX3) (As := [.long (lN (zcwP (σ 8)))]) (rest := []) ⟨hx, hb, hml, hown, hts⟩ (c_X3_scoreOf l D Y A B σ hn h (wdS σ) (ddS σ) r0 r1 r2 r3 r4 (σ 0) (pak (itC (wdS σ) σ) (σ 0)) (mkP (fun k9 => decide (k9 < σ 0))) wt wn (zcwP (σ 8)) (zcwP_lt (by omega)) hpak n12) ⟨(va_cnB 1 hts gX5_fragileBlocks_X3_scoreOf_n183 rfl rfl rfl (kM_X5_183 hN) (hts _ qX5_fragileBlocks_Cond_initialized_RX3) (by decide +kernel) (by rw [hR]; exact ⟨Nat.le_of_ble_eq_true rfl, Nat.le_of_ble_eq_true rfl⟩)), (hts _ qX5_fragileBlocks_Cond_instanceMethod_yX3_scoreOf), (hts _ qX5_fragileBlocks_Cond_selects_RX3_yX3_scoreOf_yX3_scoreOf)⟩ ⟨zB_blind, va_recv hK hP (ci := 3) (q0 := 11) rfl rfl, zp_r hP hK hN⟩ rfl rfl hl.1 rfl (lv_room (Nat.le_of_ble_eq_true rfl)) dX5_fragileBlocks_18 ⟨Nat.zero_le _, Nat.zero_le _⟩).run ?_
  refine zt_i (v := (zI (scS σ (σ 8)))) (by rw [zdif n12 (by omega)]; exact congrArg zI (scD_ok n12 (fun j hj => (kr j hj).2.2.1))) ?_
  refine lv_istore_n (lv' := [(1, .int (zI (scS σ (σ 8)))), (0, .ref (A 0))]) hx hb dX5_fragileBlocks_21 rfl hl (by decide) rfl (fun ls hl => ?_)
  refine lv_iconst (v := (nI 0)) hx hb dX5_fragileBlocks_22 (by decide) ?_
  refine lv_istore_n (lv' := [(2, .int (nI 0)), (1, .int (zI (scS σ (σ 8)))), (0, .ref (A 0))]) hx hb dX5_fragileBlocks_23 rfl hl (by decide) rfl (fun ls hl => ?_)
  refine lv_iconst (v := (nI 0)) hx hb dX5_fragileBlocks_24 (by decide) ?_
  refine lv_istore_n (lv' := [(3, .int (nI 0)), (2, .int (nI 0)), (1, .int (zI (scS σ (σ 8)))), (0, .ref (A 0))]) hx hb dX5_fragileBlocks_25 rfl hl (by decide) rfl (fun ls hl => ?_)
  have L26 : ∀ (n9 : Nat) (i : Nat) (hi : i ≤ σ 0), σ 0 - i < n9 → ∀ ls : Array Slot, lv_has ls 4 [(3, .int (nI i)), (2, .int (nI (frkI σ i))), (1, .int (zI (scS σ (σ 8)))), (0, .ref (A 0))] → W p l e R s m args below meth c s.heap [] 0 0 Q (F0 m 26 ls []) := by
    intro n9
    induction n9 with
    | zero => intro i hi hn9; exact absurd hn9 (Nat.not_lt_zero _)
    | succ n9 ih9 =>
      have ih26 := ih9
      clear ih9
      intro i hi hn9 ls hl
      have hfl : frkI σ i ≤ i := cnt_le _ i
      refine lv_iload_n hx hb dX5_fragileBlocks_26 rfl (lv_at hl 0 rfl) ?_
      refine lv_aload_n hx hb dX5_fragileBlocks_27 rfl (lv_at hl 3 rfl) ?_
      refine va_get (D := D) (ci := 5) (v := .ref (A 1)) (C := RX5) (T := TX5) (N := 7) hx hb hts qX5_fragileBlocks_inX5 hown hK hP 0 rfl rfl 0 (by decide) (hts _ qX5_fragileBlocks_Cond_fieldLink_RX5_10_NestedCodes_state_LNestedCodes_State_) (fun _ h9 => h9) rfl dX5_fragileBlocks_28 ?_
      refine va_getN (D := D) (ci := 4) (v := .int (nI (σ 0))) (C := RX4) (T := TX4) (N := 7) hx hb hts qX5_fragileBlocks_inX4 hown hK hP 1 rfl rfl 0 (by decide) (kN_X5_55 hN) (fun _ h9 => h9) rfl dX5_fragileBlocks_31 ?_
      refine zn_icmp_ge (tgt := 60)  hx hb dX5_fragileBlocks_34 (by decide) (by omega) (by omega) (fun c34 => ?_) (fun c34 => ?_)
      · obtain rfl : i = σ 0 := by omega
        refine lv_iload_n hx hb dX5_fragileBlocks_60 rfl (lv_at hl 1 rfl) ?_
        exact zr_i hx hb hr hlk hQ dX5_fragileBlocks_61 (rfl)
      · refine lv_iload_n hx hb dX5_fragileBlocks_37 rfl (lv_at hl 2 rfl) ?_
        refine lv_aload_n hx hb dX5_fragileBlocks_38 rfl (lv_at hl 3 rfl) ?_
        refine lv_iload_n hx hb dX5_fragileBlocks_39 rfl (lv_at hl 0 rfl) ?_
        refine zc_r (va_runV (As := [.int (nI i)]) (rest := [.int (zI (scS σ (σ 8)))]) ⟨hx, hb, hml, hown, hts⟩ (c_X5_partInSentScore l D Y A B σ hn h r0 r1 r2 r3 r4 wt wn i kσ kr (by omega)) (cwV 1 hts gX5_fragileBlocks_X5_partInSentScore rfl rfl rfl (by decide +kernel) (by rw [hR]; exact ⟨Nat.le_of_ble_eq_true rfl, Nat.le_of_ble_eq_true rfl⟩)) ⟨zB_blind, va_recv hK hP (ci := 5) (q0 := 0) rfl rfl, zp_r hP hK hN⟩ rfl rfl hl.1 rfl (lv_room (Nat.le_of_ble_eq_true rfl)) dX5_fragileBlocks_40 ⟨Nat.zero_le _, Nat.zero_le _⟩).run ?_
        have hpt40 := ptS_b σ i
        refine zv_isub hx hb (v := (zI ((scS σ (σ 8)) - (ptS σ i)))) dX5_fragileBlocks_43 (by exact zI_sub _ _) ?_
        refine lv_aload_n hx hb dX5_fragileBlocks_44 rfl (lv_at hl 3 rfl) ?_
        refine zc_r (va_runV (As := []) (rest := [.int (zI ((scS σ (σ 8)) - (ptS σ i)))]) ⟨hx, hb, hml, hown, hts⟩ (c_X5_lawBound l D Y A B σ hn h (wdS σ) (ddS σ) r0 r1 r2 r3 r4 (σ 0) (pak (itC (wdS σ) σ) (σ 0)) (mkP (fun k9 => decide (k9 < σ 0))) wt wn  kσ (Nat.le_trans (dd_le σ) (by decide))) (cwV 0 hts gX5_fragileBlocks_X5_lawBound rfl rfl rfl (by decide +kernel) (by rw [hR]; exact ⟨Nat.le_of_ble_eq_true rfl, Nat.le_of_ble_eq_true rfl⟩)) ⟨zB_blind, va_recv hK hP (ci := 5) (q0 := 0) rfl rfl, zp_r hP hK hN⟩ rfl rfl hl.1 rfl (lv_room (Nat.le_of_ble_eq_true rfl)) dX5_fragileBlocks_45 ⟨Nat.zero_le _, Nat.zero_le _⟩).run ?_
        have hsb := scS_b n12 (σ 8)
        refine zt_i (v := (nI (barS σ))) (rfl) ?_
        refine zz_icmp_gt (tgt := 54) (a := (scS σ (σ 8)) - (ptS σ i)) (b := (((barS σ : Nat)) : Int)) hx hb dX5_fragileBlocks_48 (by decide) (zI_toInt (by omega) (by omega)) (zt_n (by omega)) (fun c48 => ?_) (fun c48 => ?_)
        · refine lv_iinc (v := (nI (i + 1))) (lv' := [(3, .int (nI (i + 1))), (2, .int (nI (frkI σ i))), (1, .int (zI (scS σ (σ 8)))), (0, .ref (A 0))]) hx hb dX5_fragileBlocks_54 hl (k := 0) rfl (zinc _) (by decide) rfl (fun ls hl => ?_)
          refine lv_goto (tgt := 26) hx hb dX5_fragileBlocks_57 (by decide) ?_
          rw [show (.int (nI (frkI σ i)) : Value) = .int (nI (frkI σ (i + 1))) from congrArg _ (congrArg nI (show _ = frkI σ i + b01 ((fun j => decide (scS σ (σ 8) - ptS σ j ≤ ((barS σ : Nat) : Int))) i) from by rw [show (fun j => decide (scS σ (σ 8) - ptS σ j ≤ ((barS σ : Nat) : Int))) i = false from decide_eq_false (by omega)]; rfl))] at hl
          exact ih26 (i + 1) (by omega) (by omega) ls (lv_sub hl [0, 1, 2, 3] rfl)
        · refine lv_iinc (v := (nI (frkI σ i + 1))) (lv' := [(2, .int (nI (frkI σ i + 1))), (3, .int (nI i)), (1, .int (zI (scS σ (σ 8)))), (0, .ref (A 0))]) hx hb dX5_fragileBlocks_51 hl (k := 1) rfl (zinc _) (by decide) rfl (fun ls hl => ?_)
          refine lv_iinc (v := (nI (i + 1))) (lv' := [(3, .int (nI (i + 1))), (2, .int (nI (frkI σ i + 1))), (1, .int (zI (scS σ (σ 8)))), (0, .ref (A 0))]) hx hb dX5_fragileBlocks_54 hl (k := 1) rfl (zinc _) (by decide) rfl (fun ls hl => ?_)
          refine lv_goto (tgt := 26) hx hb dX5_fragileBlocks_57 (by decide) ?_
          rw [show (.int (nI (frkI σ i + 1)) : Value) = .int (nI (frkI σ (i + 1))) from congrArg _ (congrArg nI (show _ = frkI σ i + b01 ((fun j => decide (scS σ (σ 8) - ptS σ j ≤ ((barS σ : Nat) : Int))) i) from by rw [show (fun j => decide (scS σ (σ 8) - ptS σ j ≤ ((barS σ : Nat) : Int))) i = true from decide_eq_true (by omega)]; rfl))] at hl
          exact ih26 (i + 1) (by omega) (by omega) ls (lv_sub hl [0, 1, 2, 3] rfl)
  exact L26 (σ 0 - 0 + 1) 0 (by omega) (Nat.lt_succ_self _) ls (lv_sub hl [0, 1, 2, 3] rfl)
theorem qX5_nearest_Cond_fieldLink_RX5_10_NestedCodes_state_LNestedCodes_State_ : Cond.fieldLink RX5 10 "NestedCodes" "state" "LNestedCodes$State;" ∈ wsX5_nearest := by decide +kernel
theorem qX5_nearest_inX5 : ∀ w ∈ wsX50, w ∈ wsX5_nearest := by decide +kernel
theorem qX5_nearest_Cond_initialized_RX4 : Cond.initialized RX4 ∈ wsX5_nearest := by decide +kernel
theorem qX5_nearest_Cond_instanceMethod_yX4_outerDistance : Cond.instanceMethod yX4_outerDistance ∈ wsX5_nearest := by decide +kernel
theorem qX5_nearest_Cond_selects_RX4_yX4_outerDistance_yX4_outerDistance : Cond.selects RX4 yX4_outerDistance yX4_outerDistance ∈ wsX5_nearest := by decide +kernel
set_option maxHeartbeats 4000000 in
set_option maxRecDepth 100000 in
theorem c_X5_nearest (l : Launch) (D : va_G) (Y : Nat → ClassId) (A : Nat → Nat) (B : Nat → Nat) (σ : Nat → Nat) (hn : Nat) (h : Nat → Nat → Nat) (r0 : Nat → Nat) (r1 : Nat → Nat) (r2 : Nat → Nat) (r3 : Nat → Nat) (r4 : Nat → Nat) (wt : Nat → Nat) (wn : Nat) (x : Int32)  (kσ : zWF σ) (kr : zCon σ r0 r1 r2 r3 r4) : Met l yX5_nearest wsX5_nearest ({ frames := 4, cells := 0, slots := 0, locals := 98 } : Room) (va_Pc [.ref (A 0), .int (x)] (zB D Y (CX Y A B σ hn h (wdS σ) (ddS σ) r0 r1 r2 r3 r4 (σ 0) (pak (itC (wdS σ) σ) (σ 0)) (mkP (fun k9 => decide (k9 < σ 0))) wt wn))) (zR (.int (nearV σ (x).toInt))) 0 0 (fun _ => False) := by
  refine zr_of (cc := cX5_nearest) (maxL := 3) (ret := (some .int)) (by decide) rfl (Nat.le_of_ble_eq_true rfl) ?_
  intro p e s m below meth c R args Q hR hx hb hml hr hlk hown hts hK hN hP hQ ls hl
  have hown : s.vm.findClass RX5 = some m.cls := hown
  have hl : lv_has ls 3 [(0, .ref (A 0)), (1, .int (x))] := hl
  have kw := kσ
  obtain ⟨n3, n12, d1, d3, dn, b4, b10, gl, lm, sn, wl, wnz⟩ := kw
  have pb := zp_b b10
  have pk9 := zp_k d3
  have hpak : pak (itC (wdS σ) σ) (σ 0) < 281474976710656 := Nat.lt_of_lt_of_le (pak_lt (fun j _ => itC_lt _ _ j)) (show 2 ^ (4 * σ 0) ≤ 2 ^ 48 from Nat.pow_le_pow_right (by decide) (by omega))
  have hbar := barS_le kσ
  refine lv_iload_n hx hb dX5_nearest_0 rfl (lv_at hl 1 rfl) ?_
  refine zz_if_lt (tgt := 9) (a := (x).toInt) hx hb dX5_nearest_1 (by decide) (rfl) (fun c1 => ?_) (fun c1 => ?_)
  · refine lv_sipush (v := (-1001)) hx hb dX5_nearest_9 (by decide) ?_
    exact zr_i hx hb hr hlk hQ dX5_nearest_12 (by unfold nearV; rw [if_neg (by omega)])
  · refine lv_iload_n hx hb dX5_nearest_4 rfl (lv_at hl 1 rfl) ?_
    refine lv_iconst (v := (nI 1)) hx hb dX5_nearest_5 (by decide) ?_
    refine zz_icmp_le (tgt := 13) (a := (x).toInt) (b := (((1 : Nat)) : Int)) hx hb dX5_nearest_6 (by decide) (rfl) (zt_n (by omega)) (fun c6 => ?_) (fun c6 => ?_)
    · refine lv_aload_n hx hb dX5_nearest_13 rfl (lv_at hl 0 rfl) ?_
      refine zc_r (va_runV (As := []) (rest := []) ⟨hx, hb, hml, hown, hts⟩ (c_X5_lawfulMessage l D Y A B σ hn h r0 r1 r2 r3 r4 wt wn  kσ kr) (cwV 0 hts gX5_nearest_X5_lawfulMessage rfl rfl rfl (by decide +kernel) (by rw [hR]; exact ⟨Nat.le_of_ble_eq_true rfl, Nat.le_of_ble_eq_true rfl⟩)) ⟨zB_blind, va_recv hK hP (ci := 5) (q0 := 0) rfl rfl, zp_r hP hK hN⟩ rfl rfl hl.1 rfl (lv_room (Nat.le_of_ble_eq_true rfl)) dX5_nearest_14 ⟨Nat.zero_le _, Nat.zero_le _⟩).run ?_
      rcases Nat.lt_or_ge (lawM σ) (nMs σ) with hlm | hlm
      · have hlm2 : lawM σ < 2 ^ (4 * σ 1) := hlm
        refine zt_i (v := (nI (lawM σ))) (if_pos hlm) ?_
        refine lv_istore_n (lv' := [(2, .int (nI (lawM σ))), (0, .ref (A 0)), (1, .int (x))]) hx hb dX5_nearest_17 rfl hl (by decide) rfl (fun ls hl => ?_)
        refine lv_iload_n hx hb dX5_nearest_18 rfl (lv_at hl 0 rfl) ?_
        refine lv_iconst (v := (-1)) hx hb dX5_nearest_19 (by decide) ?_
        refine zz_icmp_ne (tgt := 27) (a := (((lawM σ : Nat)) : Int)) (b := -1) hx hb dX5_nearest_20 (by decide) (zt_n (by omega)) (by decide) (fun c20 => ?_) (fun c20 => ?_)
        · refine lv_iload_n hx hb dX5_nearest_27 rfl (lv_at hl 2 rfl) ?_
          refine zz_if_ne (tgt := 41) (a := (x).toInt) hx hb dX5_nearest_28 (by decide) (rfl) (fun c28 => ?_) (fun c28 => ?_)
          · refine lv_aload_n hx hb dX5_nearest_41 rfl (lv_at hl 1 rfl) ?_
            refine lv_iload_n hx hb dX5_nearest_42 rfl (lv_at hl 0 rfl) ?_
            refine zc_r (va_runV (As := [.int (nI (lawM σ))]) (rest := []) ⟨hx, hb, hml, hown, hts⟩ (c_X5_nearestMessage l D Y A B σ hn h (wdS σ) (ddS σ) r0 r1 r2 r3 r4 (σ 0) (pak (itC (wdS σ) σ) (σ 0)) (mkP (fun k9 => decide (k9 < σ 0))) wt wn (lawM σ) kσ (by omega)) (cwV 1 hts gX5_nearest_X5_nearestMessage rfl rfl rfl (by decide +kernel) (by rw [hR]; exact ⟨Nat.le_of_ble_eq_true rfl, Nat.le_of_ble_eq_true rfl⟩)) ⟨zB_blind, va_recv hK hP (ci := 5) (q0 := 0) rfl rfl, zp_r hP hK hN⟩ rfl rfl hl.1 rfl (lv_room (Nat.le_of_ble_eq_true rfl)) dX5_nearest_43 ⟨Nat.zero_le _, Nat.zero_le _⟩).run ?_
            exact zr_i hx hb hr hlk hQ dX5_nearest_46 (by unfold nearV; rw [if_pos (by omega), if_pos hlm, if_neg (by omega)])
          · refine lv_aload_n hx hb dX5_nearest_31 rfl (lv_at hl 1 rfl) ?_
            refine va_get (D := D) (ci := 5) (v := .ref (A 1)) (C := RX5) (T := TX5) (N := 7) hx hb hts qX5_nearest_inX5 hown hK hP 0 rfl rfl 0 (by decide) (hts _ qX5_nearest_Cond_fieldLink_RX5_10_NestedCodes_state_LNestedCodes_State_) (fun _ h9 => h9) rfl dX5_nearest_32 ?_
            refine zc_r (va_runVN (C := RX4) (As := []) (rest := []) ⟨hx, hb, hml, hown, hts⟩ (c_X4_outerDistance l D Y A B σ hn h (wdS σ) (ddS σ) r0 r1 r2 r3 r4 (σ 0) (pak (itC (wdS σ) σ) (σ 0)) (mkP (fun k9 => decide (k9 < σ 0))) wt wn  kσ) ⟨(va_cnB 0 hts gX5_nearest_X4_outerDistance_n87 rfl rfl rfl (kM_X5_87 hN) (hts _ qX5_nearest_Cond_initialized_RX4) (by decide +kernel) (by rw [hR]; exact ⟨Nat.le_of_ble_eq_true rfl, Nat.le_of_ble_eq_true rfl⟩)), (hts _ qX5_nearest_Cond_instanceMethod_yX4_outerDistance), (hts _ qX5_nearest_Cond_selects_RX4_yX4_outerDistance_yX4_outerDistance)⟩ ⟨zB_blind, va_recv hK hP (ci := 4) (q0 := 1) rfl rfl, zp_r hP hK hN⟩ rfl rfl hl.1 rfl (lv_room (Nat.le_of_ble_eq_true rfl)) dX5_nearest_35 ⟨Nat.zero_le _, Nat.zero_le _⟩).run ?_
            refine lv_goto (tgt := 46) hx hb dX5_nearest_38 (by decide) ?_
            exact zr_i hx hb hr hlk hQ dX5_nearest_46 (by unfold nearV; rw [if_pos (by omega), if_pos hlm, if_pos (by omega)])
        · exact absurd c20 (by omega)
      · refine zt_i (v := (-1)) (if_neg (by omega)) ?_
        refine lv_istore_n (lv' := [(2, .int (-1)), (0, .ref (A 0)), (1, .int (x))]) hx hb dX5_nearest_17 rfl hl (by decide) rfl (fun ls hl => ?_)
        refine lv_iload_n hx hb dX5_nearest_18 rfl (lv_at hl 0 rfl) ?_
        refine lv_iconst (v := (-1)) hx hb dX5_nearest_19 (by decide) ?_
        refine zz_icmp_ne (tgt := 27) (a := -1) (b := -1) hx hb dX5_nearest_20 (by decide) (by decide) (by decide) (fun c20 => ?_) (fun c20 => ?_)
        · exact absurd c20 (by omega)
        · refine lv_sipush (v := (-1004)) hx hb dX5_nearest_23 (by decide) ?_
          exact zr_i hx hb hr hlk hQ dX5_nearest_26 (by unfold nearV; rw [if_pos (by omega), if_neg (by omega)])
    · refine lv_sipush (v := (-1001)) hx hb dX5_nearest_9 (by decide) ?_
      exact zr_i hx hb hr hlk hQ dX5_nearest_12 (by unfold nearV; rw [if_neg (by omega)])
