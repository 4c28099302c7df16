set_option maxHeartbeats 4000000 in
set_option maxRecDepth 100000 in
theorem c_X6_setOuter_bad (l : Launch) (D : va_G) (Y : Nat → ClassId) (A : Nat → Nat) (σ : Nat → Nat) (hf : Nat → Nat) (hn : Nat) (wt : Nat → Nat) (wn : Nat) (sy : Nat → Nat) (gp : Nat → Nat) (i0 : Nat → Nat) (i1 : Nat → Nat) (i2 : Nat → Nat) (i3 : Nat → Nat) (fo : Int32) (de : Int32) (x : Int32) (y : Int32)  (kσ : zWF σ) (ksy : ∀ w9, w9 < 2 ^ (σ 2) → sy w9 = syS σ w9) (kgp : ∀ w9, w9 < 2 ^ (σ 2) → gp w9 = gpS σ w9) (hbad : ¬ (3 ≤ (x).toInt ∧ (x).toInt ≤ 12 ∧ 1 ≤ (y).toInt ∧ (y).toInt ≤ 3 ∧ (y).toInt < (x).toInt)) : Met l yX6_setOuter wsX6_setOuter ({ frames := 1, cells := 0, slots := 0, locals := 22 } : Room) (va_Pc [.ref (A 0), .int (x), .int (y)] (zB D Y (MX Y A σ hf hn wt wn tmS cdS (wdS σ) sy gp (ddS σ) i0 i1 i2 i3 fo de))) (zR (.int (-1001))) 0 0 (fun _ => False) := by
  refine zr_of (cc := cX6_setOuter) (maxL := 4) (ret := (some .int)) (by decide) rfl (Nat.le_of_ble_eq_true rfl) ?_
  intro p e s m below meth c R args Q hR hx hb hml hr hlk hown hts hK hN hP hQ ls hl
  have hown : s.vm.findClass RX6 = some m.cls := hown
  have hl : lv_has ls 4 [(0, .ref (A 0)), (1, .int (x)), (2, .int (y))] := hl
  have kw := kσ
  obtain ⟨n3, n12, d1, d3, dn, b4, b10, gl, lm, sn, wl, wnz⟩ := kw
  have pb := zp_b b10
  have pk9 := zp_k d3
  refine lv_iload_n hx hb dX6_setOuter_0 rfl (lv_at hl 1 rfl) ?_
  refine lv_iconst (v := (nI 3)) hx hb dX6_setOuter_1 (by decide) ?_
  refine lv_bipush (v := (nI 12)) hx hb dX6_setOuter_2 (by decide) ?_
  refine zc_r (va_runS (As := [.int (x), .int (nI 3), .int (nI 12)]) (rest := []) ⟨hx, hb, hml, hown, hts⟩ (c_X6_in l D Y  x ((nI 3)) ((nI 12)) ) (va_cwS 3 hts gX6_setOuter_X6_in rfl rfl rfl (by decide +kernel) (by rw [hR]; exact ⟨Nat.le_of_ble_eq_true rfl, Nat.le_of_ble_eq_true rfl⟩)) ⟨zB_blind, (zp_r (v := [.int (x), .int (nI 3), .int (nI 12)]) (fun k q h => absurd h (by simp)) hK hN)⟩ rfl rfl hl.1 rfl (lv_room (Nat.le_of_ble_eq_true rfl)) dX6_setOuter_4 ⟨Nat.zero_le _, Nat.zero_le _⟩).run ?_
  have h4a : ((nI 3)).toInt = _ := zt_n (by omega)
  have h4b : ((nI 12)).toInt = _ := zt_n (by omega)
  refine zb_if_eq (tgt := 24)  hx hb dX6_setOuter_7 (by decide)  (fun c7 => ?_) (fun c7 => ?_)
  · refine lv_sipush (v := (-1001)) hx hb dX6_setOuter_24 (by decide) ?_
    exact zr_i hx hb hr hlk hQ dX6_setOuter_27 (rfl)
  · refine lv_iload_n hx hb dX6_setOuter_10 rfl (lv_at hl 2 rfl) ?_
    refine lv_iconst (v := (nI 1)) hx hb dX6_setOuter_11 (by decide) ?_
    refine lv_iconst (v := (nI 3)) hx hb dX6_setOuter_12 (by decide) ?_
    refine zc_r (va_runS (As := [.int (y), .int (nI 1), .int (nI 3)]) (rest := []) ⟨hx, hb, hml, hown, hts⟩ (c_X6_in l D Y  y ((nI 1)) ((nI 3)) ) (va_cwS 3 hts gX6_setOuter_X6_in rfl rfl rfl (by decide +kernel) (by rw [hR]; exact ⟨Nat.le_of_ble_eq_true rfl, Nat.le_of_ble_eq_true rfl⟩)) ⟨zB_blind, (zp_r (v := [.int (y), .int (nI 1), .int (nI 3)]) (fun k q h => absurd h (by simp)) hK hN)⟩ rfl rfl hl.1 rfl (lv_room (Nat.le_of_ble_eq_true rfl)) dX6_setOuter_13 ⟨Nat.zero_le _, Nat.zero_le _⟩).run ?_
    have h13a : ((nI 1)).toInt = _ := zt_n (by omega)
    have h13b : ((nI 3)).toInt = _ := zt_n (by omega)
    refine zb_if_eq (tgt := 24)  hx hb dX6_setOuter_16 (by decide)  (fun c16 => ?_) (fun c16 => ?_)
    · refine lv_sipush (v := (-1001)) hx hb dX6_setOuter_24 (by decide) ?_
      exact zr_i hx hb hr hlk hQ dX6_setOuter_27 (rfl)
    · refine lv_iload_n hx hb dX6_setOuter_19 rfl (lv_at hl 2 rfl) ?_
      refine lv_iload_n hx hb dX6_setOuter_20 rfl (lv_at hl 1 rfl) ?_
      refine zz_icmp_lt (tgt := 28) (a := (y).toInt) (b := (x).toInt) hx hb dX6_setOuter_21 (by decide) (rfl) (rfl) (fun c21 => ?_) (fun c21 => ?_)
      · exact absurd c21 (by omega)
      · refine lv_sipush (v := (-1001)) hx hb dX6_setOuter_24 (by decide) ?_
        exact zr_i hx hb hr hlk hQ dX6_setOuter_27 (rfl)
theorem qX6_setOuter_Cond_fieldLink_RX6_7_NestedCodesModel_d_I_ : Cond.fieldLink RX6 7 "NestedCodesModel" "d" "[I" ∈ wsX6_setOuter := by decide +kernel
theorem qX6_setOuter_inX6 : ∀ w ∈ wsX60, w ∈ wsX6_setOuter := by decide +kernel
set_option maxHeartbeats 4000000 in
set_option maxRecDepth 100000 in
theorem c_X6_setOuter (l : Launch) (D : va_G) (Y : Nat → ClassId) (A : Nat → Nat) (σ : Nat → Nat) (hf : Nat → Nat) (hn : Nat) (wt : Nat → Nat) (wn : Nat) (sy : Nat → Nat) (gp : Nat → Nat) (i0 : Nat → Nat) (i1 : Nat → Nat) (i2 : Nat → Nat) (i3 : Nat → Nat) (fo : Int32) (de : Int32) (i : Nat) (k : Nat)  (kσ : zWF σ) (ksy : ∀ w9, w9 < 2 ^ (σ 2) → sy w9 = syS σ w9) (kgp : ∀ w9, w9 < 2 ^ (σ 2) → gp w9 = gpS σ w9) (khn : hn ≤ 6) (hi3 : 3 ≤ i) (hi12 : i ≤ 12) (hk1 : 1 ≤ k) (hk3 : k ≤ 3) (hki : k < i) : Met l yX6_setOuter wsX6_setOuter ({ frames := 1, cells := 0, slots := 0, locals := 22 } : Room) (va_Pc [.ref (A 0), .int (nI i), .int (nI k)] (zBw D Y (MX Y A σ hf hn wt wn tmS cdS (wdS σ) sy gp (ddS σ) i0 i1 i2 i3 fo de))) (zW (some (.int (nI (10 * σ 0 + σ 1)))) D (MX Y A (outS σ i k) (recF hf hn σ) (recN hn) wt wn tmS cdS (wdS (outS σ i k)) sy gp (ddS (outS σ i k)) i0 i1 i2 i3 fo de) (zA (MX Y A σ hf hn wt wn tmS cdS (wdS σ) sy gp (ddS σ) i0 i1 i2 i3 fo de))) 0 0 (zA (MX Y A σ hf hn wt wn tmS cdS (wdS σ) sy gp (ddS σ) i0 i1 i2 i3 fo de)) := by
  refine zw_of (cc := cX6_setOuter) (maxL := 4) (ret := (some .int)) (by decide) rfl (Nat.le_of_ble_eq_true rfl) ?_
  intro p e s m below meth c R args Q FA hR hx hb hml hr hlk hown hts hK hN hQ hP hD hS ls hl
  have hown : s.vm.findClass RX6 = some m.cls := hown
  have hl : lv_has ls 4 [(0, .ref (A 0)), (1, .int (nI i)), (2, .int (nI k))] := hl
  have hS := hS
  have kw := kσ
  obtain ⟨n3, n12, d1, d3, dn, b4, b10, gl, lm, sn, wl, wnz⟩ := kw
  have pb := zp_b b10
  have pk9 := zp_k d3
  suffices hgo : ∀ (H : Heap) (locs : List Loc), va_P D vwCl (MX Y A σ hf hn wt wn tmS cdS (wdS σ) sy gp (ddS σ) i0 i1 i2 i3 fo de) H → va_S FA s.heap H locs → W p l e R s m args below meth c H locs 0 0 Q (F0 m 0 ls []) from hgo _ _ hP hS
  clear hP hS
  intro H locs hP hS
  refine lv_iload_n hx hb dX6_setOuter_0 rfl (lv_at hl 1 rfl) ?_
  refine lv_iconst (v := (nI 3)) hx hb dX6_setOuter_1 (by decide) ?_
  refine lv_bipush (v := (nI 12)) hx hb dX6_setOuter_2 (by decide) ?_
  refine zc_r (va_runS (As := [.int (nI i), .int (nI 3), .int (nI 12)]) (rest := []) ⟨hx, hb, hml, hown, hts⟩ (c_X6_in l D Y  ((nI i)) ((nI 3)) ((nI 12)) ) (va_cwS 3 hts gX6_setOuter_X6_in rfl rfl rfl (by decide +kernel) (by rw [hR]; exact ⟨Nat.le_of_ble_eq_true rfl, Nat.le_of_ble_eq_true rfl⟩)) ⟨zB_blind, (zp_r (v := [.int (nI i), .int (nI 3), .int (nI 12)]) (fun k q h => absurd h (by simp)) hK hN)⟩ rfl rfl hl.1 rfl (lv_room (Nat.le_of_ble_eq_true rfl)) dX6_setOuter_4 ⟨Nat.zero_le _, Nat.zero_le _⟩).run ?_
  have h4v : ((nI i)).toInt = _ := zt_n (by omega)
  have h4a : ((nI 3)).toInt = _ := zt_n (by omega)
  have h4b : ((nI 12)).toInt = _ := zt_n (by omega)
  refine zb_if_eq (tgt := 24)  hx hb dX6_setOuter_7 (by decide)  (fun c7 => ?_) (fun c7 => ?_)
  · exact absurd c7 (by omega)
  · refine lv_iload_n hx hb dX6_setOuter_10 rfl (lv_at hl 2 rfl) ?_
    refine lv_iconst (v := (nI 1)) hx hb dX6_setOuter_11 (by decide) ?_
    refine lv_iconst (v := (nI 3)) hx hb dX6_setOuter_12 (by decide) ?_
    refine zc_r (va_runS (As := [.int (nI k), .int (nI 1), .int (nI 3)]) (rest := []) ⟨hx, hb, hml, hown, hts⟩ (c_X6_in l D Y  ((nI k)) ((nI 1)) ((nI 3)) ) (va_cwS 3 hts gX6_setOuter_X6_in rfl rfl rfl (by decide +kernel) (by rw [hR]; exact ⟨Nat.le_of_ble_eq_true rfl, Nat.le_of_ble_eq_true rfl⟩)) ⟨zB_blind, (zp_r (v := [.int (nI k), .int (nI 1), .int (nI 3)]) (fun k q h => absurd h (by simp)) hK hN)⟩ rfl rfl hl.1 rfl (lv_room (Nat.le_of_ble_eq_true rfl)) dX6_setOuter_13 ⟨Nat.zero_le _, Nat.zero_le _⟩).run ?_
    have h13v : ((nI k)).toInt = _ := zt_n (by omega)
    have h13a : ((nI 1)).toInt = _ := zt_n (by omega)
    have h13b : ((nI 3)).toInt = _ := zt_n (by omega)
    refine zb_if_eq (tgt := 24)  hx hb dX6_setOuter_16 (by decide)  (fun c16 => ?_) (fun c16 => ?_)
    · exact absurd c16 (by omega)
    · refine lv_iload_n hx hb dX6_setOuter_19 rfl (lv_at hl 2 rfl) ?_
      refine lv_iload_n hx hb dX6_setOuter_20 rfl (lv_at hl 1 rfl) ?_
      refine zn_icmp_lt (tgt := 28)  hx hb dX6_setOuter_21 (by decide) (by omega) (by omega) (fun c21 => ?_) (fun c21 => ?_)
      · refine lv_aload_n hx hb dX6_setOuter_28 rfl (lv_at hl 0 rfl) ?_
        refine zc_w (va_runV (As := []) (rest := []) ⟨hx, hb, hml, hown, hts⟩ (c_X6_records l D Y A σ hf hn wt wn tmS cdS (wdS σ) sy gp (ddS σ) i0 i1 i2 i3 fo de  khn) (cwV 0 hts gX6_setOuter_X6_records rfl rfl rfl (by decide +kernel) (by rw [hR]; exact ⟨Nat.le_of_ble_eq_true rfl, Nat.le_of_ble_eq_true rfl⟩)) ⟨zBw_blind, va_recv hK hP (ci := 6) (q0 := 0) rfl rfl, zp_w hP hD hK hN⟩ rfl rfl hl.1 rfl (lv_room (Nat.le_of_ble_eq_true rfl)) dX6_setOuter_29 ⟨Nat.zero_le _, Nat.zero_le _⟩).run hS (zA_of hD) (fun H locs hP hz hk hS => ?_)
        have hD : va_D FA (MX Y A σ (recF hf hn σ) (recN hn) wt wn tmS cdS (wdS σ) sy gp (ddS σ) i0 i1 i2 i3 fo de) := MX_dd hD
        refine lv_bipush (v := (nI 10)) hx hb dX6_setOuter_32 (by decide) ?_
        refine lv_aload_n hx hb dX6_setOuter_34 rfl (lv_at hl 0 rfl) ?_
        refine va_get (D := D) (ci := 6) (v := .ref (A 1)) (C := RX6) (T := TX6) (N := 17) hx hb hts qX6_setOuter_inX6 hown hK hP 0 rfl rfl 0 (by decide) (hts _ qX6_setOuter_Cond_fieldLink_RX6_7_NestedCodesModel_d_I_) (fun _ h9 => h9) rfl dX6_setOuter_35 ?_
        refine lv_iconst (v := (nI 0)) hx hb dX6_setOuter_38 (by decide) ?_
        refine za_i hx hb hK hP 1 (f := fun k9 => nI (σ k9)) (v := (nI (σ 0))) rfl (by omega) (by decide) dX6_setOuter_39 (rfl) ?_
        refine zv_imul hx hb (v := (nI (10 * (σ 0)))) dX6_setOuter_40 (pk_mul _ _) ?_
        refine lv_aload_n hx hb dX6_setOuter_41 rfl (lv_at hl 0 rfl) ?_
        refine va_get (D := D) (ci := 6) (v := .ref (A 1)) (C := RX6) (T := TX6) (N := 17) hx hb hts qX6_setOuter_inX6 hown hK hP 0 rfl rfl 0 (by decide) (hts _ qX6_setOuter_Cond_fieldLink_RX6_7_NestedCodesModel_d_I_) (fun _ h9 => h9) rfl dX6_setOuter_42 ?_
        refine lv_iconst (v := (nI 1)) hx hb dX6_setOuter_45 (by decide) ?_
        refine za_i hx hb hK hP 1 (f := fun k9 => nI (σ k9)) (v := (nI (σ 1))) rfl (by omega) (by decide) dX6_setOuter_46 (rfl) ?_
        refine zv_iadd hx hb (v := (nI ((10 * (σ 0)) + (σ 1)))) dX6_setOuter_47 (nI_add _ _) ?_
        refine lv_istore_n (lv' := [(3, .int (nI ((10 * (σ 0)) + (σ 1)))), (0, .ref (A 0)), (1, .int (nI i)), (2, .int (nI k))]) hx hb dX6_setOuter_48 rfl hl (by decide) rfl (fun ls hl => ?_)
        refine lv_aload_n hx hb dX6_setOuter_49 rfl (lv_at hl 1 rfl) ?_
        refine va_get (D := D) (ci := 6) (v := .ref (A 1)) (C := RX6) (T := TX6) (N := 17) hx hb hts qX6_setOuter_inX6 hown hK hP 0 rfl rfl 0 (by decide) (hts _ qX6_setOuter_Cond_fieldLink_RX6_7_NestedCodesModel_d_I_) (fun _ h9 => h9) rfl dX6_setOuter_50 ?_
        refine lv_iconst (v := (nI 0)) hx hb dX6_setOuter_53 (by decide) ?_
        refine lv_iload_n hx hb dX6_setOuter_54 rfl (lv_at hl 2 rfl) ?_
        refine zs_i hx hb hK hP hD hS 1 (f := fun k9 => nI (σ k9)) rfl (by omega) (by decide) dX6_setOuter_55 (fun H locs hP hD9 hS => ?_)
        rw [zupd] at hP
        rw [MX_s1] at hP
        have hP : va_P D vwCl (MX Y A (va_up σ 0 i) (recF hf hn σ) (recN hn) wt wn tmS cdS (wdS σ) sy gp (ddS σ) i0 i1 i2 i3 fo de) H := hP
        have hD : va_D FA (MX Y A (va_up σ 0 i) (recF hf hn σ) (recN hn) wt wn tmS cdS (wdS σ) sy gp (ddS σ) i0 i1 i2 i3 fo de) := MX_dd hD
        clear hD9
        refine lv_aload_n hx hb dX6_setOuter_56 rfl (lv_at hl 1 rfl) ?_
        refine va_get (D := D) (ci := 6) (v := .ref (A 1)) (C := RX6) (T := TX6) (N := 17) hx hb hts qX6_setOuter_inX6 hown hK hP 0 rfl rfl 0 (by decide) (hts _ qX6_setOuter_Cond_fieldLink_RX6_7_NestedCodesModel_d_I_) (fun _ h9 => h9) rfl dX6_setOuter_57 ?_
        refine lv_iconst (v := (nI 1)) hx hb dX6_setOuter_60 (by decide) ?_
        refine lv_iload_n hx hb dX6_setOuter_61 rfl (lv_at hl 3 rfl) ?_
        refine zs_i hx hb hK hP hD hS 1 (f := fun k9 => nI ((va_up σ 0 i) k9)) rfl (by omega) (by decide) dX6_setOuter_62 (fun H locs hP hD9 hS => ?_)
        rw [zupd] at hP
        rw [MX_s1] at hP
        have hP : va_P D vwCl (MX Y A (va_up (va_up σ 0 i) 1 k) (recF hf hn σ) (recN hn) wt wn tmS cdS (wdS σ) sy gp (ddS σ) i0 i1 i2 i3 fo de) H := hP
        have hD : va_D FA (MX Y A (va_up (va_up σ 0 i) 1 k) (recF hf hn σ) (recN hn) wt wn tmS cdS (wdS σ) sy gp (ddS σ) i0 i1 i2 i3 fo de) := MX_dd hD
        clear hD9
        refine lv_aload_n hx hb dX6_setOuter_63 rfl (lv_at hl 1 rfl) ?_
        refine zc_w (va_runV (As := []) (rest := []) ⟨hx, hb, hml, hown, hts⟩ (c_X6_empties l D Y A (va_up (va_up σ 0 i) 1 k) (recF hf hn σ) (recN hn) wt wn tmS cdS (wdS σ) sy gp (ddS σ) i0 i1 i2 i3 fo de  ) (cwV 0 hts gX6_setOuter_X6_empties rfl rfl rfl (by decide +kernel) (by rw [hR]; exact ⟨Nat.le_of_ble_eq_true rfl, Nat.le_of_ble_eq_true rfl⟩)) ⟨zBw_blind, va_recv hK hP (ci := 6) (q0 := 0) rfl rfl, zp_w hP hD hK hN⟩ rfl rfl hl.1 rfl (lv_room (Nat.le_of_ble_eq_true rfl)) dX6_setOuter_64 ⟨Nat.zero_le _, Nat.zero_le _⟩).run hS (zA_of hD) (fun H locs hP hz hk hS => ?_)
        have hD : va_D FA (MX Y A (clr (va_up (va_up σ 0 i) 1 k)) (recF hf hn σ) (recN hn) wt wn tmS cdS (wdS σ) sy gp (ddS σ) i0 i1 i2 i3 fo de) := MX_dd hD
        refine lv_iload_n hx hb dX6_setOuter_67 rfl (lv_at hl 0 rfl) ?_
        exact zw_i hx hb hr hlk hQ hS dX6_setOuter_68 (rfl) ((by rw [wd_same (out_g σ i k), dd_same (out_g σ i k)]; exact hP))
      · exact absurd c21 (by omega)
set_option maxHeartbeats 4000000 in
set_option maxRecDepth 100000 in
theorem c_X6_generator_bad (l : Launch) (D : va_G) (Y : Nat → ClassId) (A : Nat → Nat) (σ : Nat → Nat) (hf : Nat → Nat) (hn : Nat) (wt : Nat → Nat) (wn : Nat) (sy : Nat → Nat) (gp : Nat → Nat) (i0 : Nat → Nat) (i1 : Nat → Nat) (i2 : Nat → Nat) (i3 : Nat → Nat) (fo : Int32) (de : Int32) (x : Int32)  (kσ : zWF σ) (ksy : ∀ w9, w9 < 2 ^ (σ 2) → sy w9 = syS σ w9) (kgp : ∀ w9, w9 < 2 ^ (σ 2) → gp w9 = gpS σ w9) (hbad : ¬ (1 ≤ (x).toInt ∧ (x).toInt ≤ 1023)) : Met l yX6_generator wsX6_generator ({ frames := 1, cells := 0, slots := 0, locals := 22 } : Room) (va_Pc [.ref (A 0), .int (x)] (zB D Y (MX Y A σ hf hn wt wn tmS cdS (wdS σ) sy gp (ddS σ) i0 i1 i2 i3 fo de))) (zR (.int (-1001))) 0 0 (fun _ => False) := by
  refine zr_of (cc := cX6_generator) (maxL := 2) (ret := (some .int)) (by decide) rfl (Nat.le_of_ble_eq_true rfl) ?_
  intro p e s m below meth c R args Q hR hx hb hml hr hlk hown hts hK hN hP hQ ls hl
  have hown : s.vm.findClass RX6 = some m.cls := hown
  have hl : lv_has ls 2 [(0, .ref (A 0)), (1, .int (x))] := hl
  have kw := kσ
  obtain ⟨n3, n12, d1, d3, dn, b4, b10, gl, lm, sn, wl, wnz⟩ := kw
  have pb := zp_b b10
  have pk9 := zp_k d3
  refine lv_iload_n hx hb dX6_generator_0 rfl (lv_at hl 1 rfl) ?_
  refine lv_iconst (v := (nI 1)) hx hb dX6_generator_1 (by decide) ?_
  refine lv_sipush (v := (nI 1023)) hx hb dX6_generator_2 (by decide) ?_
  refine zc_r (va_runS (As := [.int (x), .int (nI 1), .int (nI 1023)]) (rest := []) ⟨hx, hb, hml, hown, hts⟩ (c_X6_in l D Y  x ((nI 1)) ((nI 1023)) ) (va_cwS 3 hts gX6_generator_X6_in rfl rfl rfl (by decide +kernel) (by rw [hR]; exact ⟨Nat.le_of_ble_eq_true rfl, Nat.le_of_ble_eq_true rfl⟩)) ⟨zB_blind, (zp_r (v := [.int (x), .int (nI 1), .int (nI 1023)]) (fun k q h => absurd h (by simp)) hK hN)⟩ rfl rfl hl.1 rfl (lv_room (Nat.le_of_ble_eq_true rfl)) dX6_generator_5 ⟨Nat.zero_le _, Nat.zero_le _⟩).run ?_
  have h5a : ((nI 1)).toInt = _ := zt_n (by omega)
  have h5b : ((nI 1023)).toInt = _ := zt_n (by omega)
  refine zb_if_ne (tgt := 15)  hx hb dX6_generator_8 (by decide)  (fun c8 => ?_) (fun c8 => ?_)
  · exact absurd c8 (by omega)
  · refine lv_sipush (v := (-1001)) hx hb dX6_generator_11 (by decide) ?_
    exact zr_i hx hb hr hlk hQ dX6_generator_14 (rfl)
theorem qX6_generator_Cond_fieldLink_RX6_80_NestedCodesModel_waits_I_ : Cond.fieldLink RX6 80 "NestedCodesModel" "waits" "I" ∈ wsX6_generator := by decide +kernel
theorem qX6_generator_inX6 : ∀ w ∈ wsX60, w ∈ wsX6_generator := by decide +kernel
set_option maxHeartbeats 4000000 in
set_option maxRecDepth 100000 in
theorem c_X6_generator_full (l : Launch) (D : va_G) (Y : Nat → ClassId) (A : Nat → Nat) (σ : Nat → Nat) (hf : Nat → Nat) (hn : Nat) (wt : Nat → Nat) (wn : Nat) (sy : Nat → Nat) (gp : Nat → Nat) (i0 : Nat → Nat) (i1 : Nat → Nat) (i2 : Nat → Nat) (i3 : Nat → Nat) (fo : Int32) (de : Int32) (x : Nat)  (kσ : zWF σ) (ksy : ∀ w9, w9 < 2 ^ (σ 2) → sy w9 = syS σ w9) (kgp : ∀ w9, w9 < 2 ^ (σ 2) → gp w9 = gpS σ w9) (hx1 : 1 ≤ x) (hx2 : x ≤ 1023) (hw4 : wn = 4) : Met l yX6_generator wsX6_generator ({ frames := 1, cells := 0, slots := 0, locals := 22 } : Room) (va_Pc [.ref (A 0), .int (nI x)] (zB D Y (MX Y A σ hf hn wt wn tmS cdS (wdS σ) sy gp (ddS σ) i0 i1 i2 i3 fo de))) (zR (.int (-1003))) 0 0 (fun _ => False) := by
  refine zr_of (cc := cX6_generator) (maxL := 2) (ret := (some .int)) (by decide) rfl (Nat.le_of_ble_eq_true rfl) ?_
  intro p e s m below meth c R args Q hR hx hb hml hr hlk hown hts hK hN hP hQ ls hl
  have hown : s.vm.findClass RX6 = some m.cls := hown
  have hl : lv_has ls 2 [(0, .ref (A 0)), (1, .int (nI x))] := hl
  have kw := kσ
  obtain ⟨n3, n12, d1, d3, dn, b4, b10, gl, lm, sn, wl, wnz⟩ := kw
  have pb := zp_b b10
  have pk9 := zp_k d3
  refine lv_iload_n hx hb dX6_generator_0 rfl (lv_at hl 1 rfl) ?_
  refine lv_iconst (v := (nI 1)) hx hb dX6_generator_1 (by decide) ?_
  refine lv_sipush (v := (nI 1023)) hx hb dX6_generator_2 (by decide) ?_
  refine zc_r (va_runS (As := [.int (nI x), .int (nI 1), .int (nI 1023)]) (rest := []) ⟨hx, hb, hml, hown, hts⟩ (c_X6_in l D Y  ((nI x)) ((nI 1)) ((nI 1023)) ) (va_cwS 3 hts gX6_generator_X6_in rfl rfl rfl (by decide +kernel) (by rw [hR]; exact ⟨Nat.le_of_ble_eq_true rfl, Nat.le_of_ble_eq_true rfl⟩)) ⟨zB_blind, (zp_r (v := [.int (nI x), .int (nI 1), .int (nI 1023)]) (fun k q h => absurd h (by simp)) hK hN)⟩ rfl rfl hl.1 rfl (lv_room (Nat.le_of_ble_eq_true rfl)) dX6_generator_5 ⟨Nat.zero_le _, Nat.zero_le _⟩).run ?_
  have h5v : ((nI x)).toInt = _ := zt_n (by omega)
  have h5a : ((nI 1)).toInt = _ := zt_n (by omega)
  have h5b : ((nI 1023)).toInt = _ := zt_n (by omega)
  refine zb_if_ne (tgt := 15)  hx hb dX6_generator_8 (by decide)  (fun c8 => ?_) (fun c8 => ?_)
  · refine lv_aload_n hx hb dX6_generator_15 rfl (lv_at hl 0 rfl) ?_
    refine va_get (D := D) (ci := 6) (v := .int (nI wn)) (C := RX6) (T := TX6) (N := 17) hx hb hts qX6_generator_inX6 hown hK hP 0 rfl rfl 4 (by decide) (hts _ qX6_generator_Cond_fieldLink_RX6_80_NestedCodesModel_waits_I_) (fun _ h9 => h9) rfl dX6_generator_16 ?_
    refine lv_iconst (v := (nI 4)) hx hb dX6_generator_19 (by decide) ?_
    refine zn_icmp_ne (tgt := 27)  hx hb dX6_generator_20 (by decide) (by omega) (by omega) (fun c20 => ?_) (fun c20 => ?_)
    · exact absurd c20 (by omega)
    · refine lv_sipush (v := (-1003)) hx hb dX6_generator_23 (by decide) ?_
      exact zr_i hx hb hr hlk hQ dX6_generator_26 (rfl)
  · exact absurd c8 (by omega)
theorem qX6_generator_Cond_fieldLink_RX6_16_NestedCodesModel_waiting_I_ : Cond.fieldLink RX6 16 "NestedCodesModel" "waiting" "[I" ∈ wsX6_generator := by decide +kernel
set_option maxHeartbeats 4000000 in
set_option maxRecDepth 100000 in
theorem c_X6_generator (l : Launch) (D : va_G) (Y : Nat → ClassId) (A : Nat → Nat) (σ : Nat → Nat) (hf : Nat → Nat) (hn : Nat) (wt : Nat → Nat) (wn : Nat) (sy : Nat → Nat) (gp : Nat → Nat) (i0 : Nat → Nat) (i1 : Nat → Nat) (i2 : Nat → Nat) (i3 : Nat → Nat) (fo : Int32) (de : Int32) (x : Nat)  (kσ : zWF σ) (ksy : ∀ w9, w9 < 2 ^ (σ 2) → sy w9 = syS σ w9) (kgp : ∀ w9, w9 < 2 ^ (σ 2) → gp w9 = gpS σ w9) (hx1 : 1 ≤ x) (hx2 : x ≤ 1023) (hw4 : wn < 4) : Met l yX6_generator wsX6_generator ({ frames := 1, cells := 0, slots := 0, locals := 22 } : Room) (va_Pc [.ref (A 0), .int (nI x)] (zBw D Y (MX Y A σ hf hn wt wn tmS cdS (wdS σ) sy gp (ddS σ) i0 i1 i2 i3 fo de))) (zW (some (.int (nI (wn + 1)))) D (MX Y A σ hf hn (va_up wt wn x) (wn + 1) tmS cdS (wdS σ) sy gp (ddS σ) i0 i1 i2 i3 fo de) (zA (MX Y A σ hf hn wt wn tmS cdS (wdS σ) sy gp (ddS σ) i0 i1 i2 i3 fo de))) 0 0 (zA (MX Y A σ hf hn wt wn tmS cdS (wdS σ) sy gp (ddS σ) i0 i1 i2 i3 fo de)) := by
  refine zw_of (cc := cX6_generator) (maxL := 2) (ret := (some .int)) (by decide) rfl (Nat.le_of_ble_eq_true rfl) ?_
  intro p e s m below meth c R args Q FA hR hx hb hml hr hlk hown hts hK hN hQ hP hD hS ls hl
  have hown : s.vm.findClass RX6 = some m.cls := hown
  have hl : lv_has ls 2 [(0, .ref (A 0)), (1, .int (nI x))] := hl
  have hS := hS
  have kw := kσ
  obtain ⟨n3, n12, d1, d3, dn, b4, b10, gl, lm, sn, wl, wnz⟩ := kw
  have pb := zp_b b10
  have pk9 := zp_k d3
  suffices hgo : ∀ (H : Heap) (locs : List Loc), va_P D vwCl (MX Y A σ hf hn wt wn tmS cdS (wdS σ) sy gp (ddS σ) i0 i1 i2 i3 fo de) H → va_S FA s.heap H locs → W p l e R s m args below meth c H locs 0 0 Q (F0 m 0 ls []) from hgo _ _ hP hS
  clear hP hS
  intro H locs hP hS
  refine lv_iload_n hx hb dX6_generator_0 rfl (lv_at hl 1 rfl) ?_
  refine lv_iconst (v := (nI 1)) hx hb dX6_generator_1 (by decide) ?_
  refine lv_sipush (v := (nI 1023)) hx hb dX6_generator_2 (by decide) ?_
  refine zc_r (va_runS (As := [.int (nI x), .int (nI 1), .int (nI 1023)]) (rest := []) ⟨hx, hb, hml, hown, hts⟩ (c_X6_in l D Y  ((nI x)) ((nI 1)) ((nI 1023)) ) (va_cwS 3 hts gX6_generator_X6_in rfl rfl rfl (by decide +kernel) (by rw [hR]; exact ⟨Nat.le_of_ble_eq_true rfl, Nat.le_of_ble_eq_true rfl⟩)) ⟨zB_blind, (zp_r (v := [.int (nI x), .int (nI 1), .int (nI 1023)]) (fun k q h => absurd h (by simp)) hK hN)⟩ rfl rfl hl.1 rfl (lv_room (Nat.le_of_ble_eq_true rfl)) dX6_generator_5 ⟨Nat.zero_le _, Nat.zero_le _⟩).run ?_
  have h5v : ((nI x)).toInt = _ := zt_n (by omega)
  have h5a : ((nI 1)).toInt = _ := zt_n (by omega)
  have h5b : ((nI 1023)).toInt = _ := zt_n (by omega)
  refine zb_if_ne (tgt := 15)  hx hb dX6_generator_8 (by decide)  (fun c8 => ?_) (fun c8 => ?_)
  · refine lv_aload_n hx hb dX6_generator_15 rfl (lv_at hl 0 rfl) ?_
    refine va_get (D := D) (ci := 6) (v := .int (nI wn)) (C := RX6) (T := TX6) (N := 17) hx hb hts qX6_generator_inX6 hown hK hP 0 rfl rfl 4 (by decide) (hts _ qX6_generator_Cond_fieldLink_RX6_80_NestedCodesModel_waits_I_) (fun _ h9 => h9) rfl dX6_generator_16 ?_
    refine lv_iconst (v := (nI 4)) hx hb dX6_generator_19 (by decide) ?_
    refine zn_icmp_ne (tgt := 27)  hx hb dX6_generator_20 (by decide) (by omega) (by omega) (fun c20 => ?_) (fun c20 => ?_)
    · refine lv_aload_n hx hb dX6_generator_27 rfl (lv_at hl 0 rfl) ?_
      refine va_get (D := D) (ci := 6) (v := .ref (A 3)) (C := RX6) (T := TX6) (N := 17) hx hb hts qX6_generator_inX6 hown hK hP 0 rfl rfl 3 (by decide) (hts _ qX6_generator_Cond_fieldLink_RX6_16_NestedCodesModel_waiting_I_) (fun _ h9 => h9) rfl dX6_generator_28 ?_
      refine lv_aload_n hx hb dX6_generator_31 rfl (lv_at hl 0 rfl) ?_
      refine va_get (D := D) (ci := 6) (v := .int (nI wn)) (C := RX6) (T := TX6) (N := 17) hx hb hts qX6_generator_inX6 hown hK hP 0 rfl rfl 4 (by decide) (hts _ qX6_generator_Cond_fieldLink_RX6_80_NestedCodesModel_waits_I_) (fun _ h9 => h9) rfl dX6_generator_32 ?_
      refine lv_iload_n hx hb dX6_generator_35 rfl (lv_at hl 1 rfl) ?_
      refine zs_i hx hb hK hP hD hS 3 (f := fun k9 => nI (wt k9)) rfl (by omega) (by decide) dX6_generator_36 (fun H locs hP hD9 hS => ?_)
      rw [zupd] at hP
      rw [MX_s3] at hP
      have hP : va_P D vwCl (MX Y A σ hf hn (va_up wt wn x) wn tmS cdS (wdS σ) sy gp (ddS σ) i0 i1 i2 i3 fo de) H := hP
      have hD : va_D FA (MX Y A σ hf hn (va_up wt wn x) wn tmS cdS (wdS σ) sy gp (ddS σ) i0 i1 i2 i3 fo de) := MX_dd hD
      clear hD9
      refine lv_aload_n hx hb dX6_generator_37 rfl (lv_at hl 0 rfl) ?_
      refine lv_dup hx hb dX6_generator_38 rfl ?_
      refine va_get (D := D) (ci := 6) (v := .int (nI wn)) (C := RX6) (T := TX6) (N := 17) hx hb hts qX6_generator_inX6 hown hK hP 0 rfl rfl 4 (by decide) (hts _ qX6_generator_Cond_fieldLink_RX6_80_NestedCodesModel_waits_I_) (fun _ h9 => h9) rfl dX6_generator_39 ?_
      refine lv_iconst (v := (nI 1)) hx hb dX6_generator_42 (by decide) ?_
      refine zv_iadd hx hb (v := (nI (wn + 1))) dX6_generator_43 (nI_add _ _) ?_
      refine va_put (D := D) (ci := 6) (v := .int (nI (wn + 1))) (ty := .int) (C := RX6) (T := TX6) (N := 17) hx hb hts qX6_generator_inX6 tyX6 tyX6_ok nmX6 hown hK hP hD hS 0 rfl rfl 4 (by decide) (hts _ qX6_generator_Cond_fieldLink_RX6_80_NestedCodesModel_waits_I_) (fun _ h9 => h9) rfl (by decide +kernel) rfl rfl (Nat.le_of_ble_eq_true rfl) dX6_generator_44 (fun H locs hP hD9 hS => ?_)
      rw [MX_f_wn] at hP
      have hP : va_P D vwCl (MX Y A σ hf hn (va_up wt wn x) (wn + 1) tmS cdS (wdS σ) sy gp (ddS σ) i0 i1 i2 i3 fo de) H := hP
      have hD : va_D FA (MX Y A σ hf hn (va_up wt wn x) (wn + 1) tmS cdS (wdS σ) sy gp (ddS σ) i0 i1 i2 i3 fo de) := MX_dd hD
      clear hD9
      refine lv_aload_n hx hb dX6_generator_47 rfl (lv_at hl 0 rfl) ?_
      refine va_get (D := D) (ci := 6) (v := .int (nI (wn + 1))) (C := RX6) (T := TX6) (N := 17) hx hb hts qX6_generator_inX6 hown hK hP 0 rfl rfl 4 (by decide) (hts _ qX6_generator_Cond_fieldLink_RX6_80_NestedCodesModel_waits_I_) (fun _ h9 => h9) rfl dX6_generator_48 ?_
      exact zw_i hx hb hr hlk hQ hS dX6_generator_51 (rfl) (hP)
    · exact absurd c20 (by omega)
  · exact absurd c8 (by omega)
theorem qX6_clearGenerators_Cond_fieldLink_RX6_80_NestedCodesModel_waits_I_ : Cond.fieldLink RX6 80 "NestedCodesModel" "waits" "I" ∈ wsX6_clearGenerators := by decide +kernel
theorem qX6_clearGenerators_inX6 : ∀ w ∈ wsX60, w ∈ wsX6_clearGenerators := by decide +kernel
set_option maxHeartbeats 4000000 in
set_option maxRecDepth 100000 in
theorem c_X6_clearGenerators (l : Launch) (D : va_G) (Y : Nat → ClassId) (A : Nat → Nat) (σ : Nat → Nat) (hf : Nat → Nat) (hn : Nat) (wt : Nat → Nat) (wn : Nat) (sy : Nat → Nat) (gp : Nat → Nat) (i0 : Nat → Nat) (i1 : Nat → Nat) (i2 : Nat → Nat) (i3 : Nat → Nat) (fo : Int32) (de : Int32)   (kσ : zWF σ) (ksy : ∀ w9, w9 < 2 ^ (σ 2) → sy w9 = syS σ w9) (kgp : ∀ w9, w9 < 2 ^ (σ 2) → gp w9 = gpS σ w9) : Met l yX6_clearGenerators wsX6_clearGenerators ({ frames := 0, cells := 0, slots := 0, locals := 0 } : Room) (va_Pc [.ref (A 0)] (zBw D Y (MX Y A σ hf hn wt wn tmS cdS (wdS σ) sy gp (ddS σ) i0 i1 i2 i3 fo de))) (zW (some (.int (nI wn))) D (MX Y A σ hf hn wt 0 tmS cdS (wdS σ) sy gp (ddS σ) i0 i1 i2 i3 fo de) (zA (MX Y A σ hf hn wt wn tmS cdS (wdS σ) sy gp (ddS σ) i0 i1 i2 i3 fo de))) 0 0 (zA (MX Y A σ hf hn wt wn tmS cdS (wdS σ) sy gp (ddS σ) i0 i1 i2 i3 fo de)) := by
  refine zw_of (cc := cX6_clearGenerators) (maxL := 2) (ret := (some .int)) (by decide) rfl (Nat.le_of_ble_eq_true rfl) ?_
  intro p e s m below meth c R args Q FA hR hx hb hml hr hlk hown hts hK hN hQ hP hD hS ls hl
  have hown : s.vm.findClass RX6 = some m.cls := hown
  have hl : lv_has ls 2 [(0, .ref (A 0))] := hl
  have hS := hS
  have kw := kσ
  obtain ⟨n3, n12, d1, d3, dn, b4, b10, gl, lm, sn, wl, wnz⟩ := kw
  have pb := zp_b b10
  have pk9 := zp_k d3
  suffices hgo : ∀ (H : Heap) (locs : List Loc), va_P D vwCl (MX Y A σ hf hn wt wn tmS cdS (wdS σ) sy gp (ddS σ) i0 i1 i2 i3 fo de) H → va_S FA s.heap H locs → W p l e R s m args below meth c H locs 0 0 Q (F0 m 0 ls []) from hgo _ _ hP hS
  clear hP hS
  intro H locs hP hS
  refine lv_aload_n hx hb dX6_clearGenerators_0 rfl (lv_at hl 0 rfl) ?_
  refine va_get (D := D) (ci := 6) (v := .int (nI wn)) (C := RX6) (T := TX6) (N := 17) hx hb hts qX6_clearGenerators_inX6 hown hK hP 0 rfl rfl 4 (by decide) (hts _ qX6_clearGenerators_Cond_fieldLink_RX6_80_NestedCodesModel_waits_I_) (fun _ h9 => h9) rfl dX6_clearGenerators_1 ?_
  refine lv_istore_n (lv' := [(1, .int (nI wn)), (0, .ref (A 0))]) hx hb dX6_clearGenerators_4 rfl hl (by decide) rfl (fun ls hl => ?_)
  refine lv_aload_n hx hb dX6_clearGenerators_5 rfl (lv_at hl 1 rfl) ?_
  refine lv_iconst (v := (nI 0)) hx hb dX6_clearGenerators_6 (by decide) ?_
  refine va_put (D := D) (ci := 6) (v := .int (nI 0)) (ty := .int) (C := RX6) (T := TX6) (N := 17) hx hb hts qX6_clearGenerators_inX6 tyX6 tyX6_ok nmX6 hown hK hP hD hS 0 rfl rfl 4 (by decide) (hts _ qX6_clearGenerators_Cond_fieldLink_RX6_80_NestedCodesModel_waits_I_) (fun _ h9 => h9) rfl (by decide +kernel) rfl rfl (Nat.le_of_ble_eq_true rfl) dX6_clearGenerators_7 (fun H locs hP hD9 hS => ?_)
  rw [MX_f_wn] at hP
  have hP : va_P D vwCl (MX Y A σ hf hn wt 0 tmS cdS (wdS σ) sy gp (ddS σ) i0 i1 i2 i3 fo de) H := hP
  have hD : va_D FA (MX Y A σ hf hn wt 0 tmS cdS (wdS σ) sy gp (ddS σ) i0 i1 i2 i3 fo de) := MX_dd hD
  clear hD9
  refine lv_iload_n hx hb dX6_clearGenerators_10 rfl (lv_at hl 0 rfl) ?_
  exact zw_i hx hb hr hlk hQ hS dX6_clearGenerators_11 (rfl) (hP)
theorem qX6_areGenerators_Cond_fieldLink_RX6_80_NestedCodesModel_waits_I_ : Cond.fieldLink RX6 80 "NestedCodesModel" "waits" "I" ∈ wsX6_areGenerators := by decide +kernel
theorem qX6_areGenerators_inX6 : ∀ w ∈ wsX60, w ∈ wsX6_areGenerators := by decide +kernel
theorem qX6_areGenerators_Cond_fieldLink_RX6_16_NestedCodesModel_waiting_I_ : Cond.fieldLink RX6 16 "NestedCodesModel" "waiting" "[I" ∈ wsX6_areGenerators := by decide +kernel
set_option maxHeartbeats 4000000 in
set_option maxRecDepth 100000 in
theorem c_X6_areGenerators (l : Launch) (D : va_G) (Y : Nat → ClassId) (A : Nat → Nat) (σ : Nat → Nat) (hf : Nat → Nat) (hn : Nat) (wt : Nat → Nat) (wn : Nat) (tm : Nat → Nat) (cd : Nat → Nat) (wd : Nat → Nat) (sy : Nat → Nat) (gp : Nat → Nat) (lz : Nat) (i0 : Nat → Nat) (i1 : Nat → Nat) (i2 : Nat → Nat) (i3 : Nat → Nat) (fo : Int32) (de : Int32) (b9 : Nat)  (kwt : ∀ j, j < 4 → wt j < 1024) (kwn : wn ≤ 4) (hb9 : b9 ≤ 10) : Met l yX6_areGenerators wsX6_areGenerators ({ frames := 0, cells := 0, slots := 0, locals := 0 } : Room) (va_Pc [.ref (A 0), .int (nI b9)] (zB D Y (MX Y A σ hf hn wt wn tm cd wd sy gp lz i0 i1 i2 i3 fo de))) (zR (.int (zq (wn = 4 ∧ genOk wt b9 = true)))) 0 0 (fun _ => False) := by
  refine zr_of (cc := cX6_areGenerators) (maxL := 6) (ret := (some .boolean)) (by decide) rfl (Nat.le_of_ble_eq_true rfl) ?_
  intro p e s m below meth c R args Q hR hx hb hml hr hlk hown hts hK hN hP hQ ls hl
  have hown : s.vm.findClass RX6 = some m.cls := hown
  have hl : lv_has ls 6 [(0, .ref (A 0)), (1, .int (nI b9))] := hl
  have pb := zp_b hb9
  refine lv_aload_n hx hb dX6_areGenerators_0 rfl (lv_at hl 0 rfl) ?_
  refine va_get (D := D) (ci := 6) (v := .int (nI wn)) (C := RX6) (T := TX6) (N := 17) hx hb hts qX6_areGenerators_inX6 hown hK hP 0 rfl rfl 4 (by decide) (hts _ qX6_areGenerators_Cond_fieldLink_RX6_80_NestedCodesModel_waits_I_) (fun _ h9 => h9) rfl dX6_areGenerators_1 ?_
  refine lv_iconst (v := (nI 4)) hx hb dX6_areGenerators_4 (by decide) ?_
  have J13 : W p l e R s m args below meth c s.heap [] 0 0 Q (F0 m 13 ls [.int (zq (wn = 4))]) := by
    refine lv_istore_n (lv' := [(2, .int (zq (wn = 4))), (0, .ref (A 0)), (1, .int (nI b9))]) hx hb dX6_areGenerators_13 rfl hl (by decide) rfl (fun ls hl => ?_)
    refine lv_iconst (v := (nI 1)) hx hb dX6_areGenerators_14 (by decide) ?_
    refine lv_istore_n (lv' := [(3, .int (nI 1)), (2, .int (zq (wn = 4))), (0, .ref (A 0)), (1, .int (nI b9))]) hx hb dX6_areGenerators_15 rfl hl (by decide) rfl (fun ls hl => ?_)
    have L16 : ∀ (n9 : Nat) (t : Nat) (ht : t ≤ 15), 15 - t < n9 → ∀ ls : Array Slot, lv_has ls 6 [(3, .int (nI (t + 1))), (2, .int (zq (wn = 4 ∧ arI wt b9 t = true))), (0, .ref (A 0)), (1, .int (nI b9))] → W p l e R s m args below meth c s.heap [] 0 0 Q (F0 m 16 ls []) := by
      intro n9
      induction n9 with
      | zero => intro t ht hn9; exact absurd hn9 (Nat.not_lt_zero _)
      | succ n9 ih9 =>
        have ih16 := ih9
        clear ih9
        intro t ht hn9 ls hl
        refine lv_iload_n hx hb dX6_areGenerators_16 rfl (lv_at hl 0 rfl) ?_
        refine lv_bipush (v := (nI 16)) hx hb dX6_areGenerators_17 (by decide) ?_
        refine zn_icmp_ge (tgt := 114)  hx hb dX6_areGenerators_19 (by decide) (by omega) (by omega) (fun c19 => ?_) (fun c19 => ?_)
        · obtain rfl : t = 15 := by omega
          refine lv_iload_n hx hb dX6_areGenerators_114 rfl (lv_at hl 1 rfl) ?_
          exact zr_z hx hb hr hlk hQ dX6_areGenerators_115 (zq_iff (by rw [arI_gen])) (by first | exact zq_or _ | decide)
        · refine lv_iload_n hx hb dX6_areGenerators_22 rfl (lv_at hl 1 rfl) ?_
          refine zb_if_eq (tgt := 114)  hx hb dX6_areGenerators_23 (by decide)  (fun c23 => ?_) (fun c23 => ?_)
          · refine lv_iload_n hx hb dX6_areGenerators_114 rfl (lv_at hl 1 rfl) ?_
            exact zr_z hx hb hr hlk hQ dX6_areGenerators_115 (zq_iff ⟨fun h => absurd h c23, fun h => absurd ⟨h.1, arI_mono ht (by rw [arI_gen]; exact h.2)⟩ c23⟩) (by first | exact zq_or _ | decide)
          · refine lv_iconst (v := (nI 0)) hx hb dX6_areGenerators_26 (by decide) ?_
            refine lv_istore (lv' := [(4, .int (nI 0)), (3, .int (nI (t + 1))), (2, .int (zq (wn = 4 ∧ arI wt b9 t = true))), (0, .ref (A 0)), (1, .int (nI b9))]) hx hb dX6_areGenerators_27 hl (by decide) rfl (fun ls hl => ?_)
            refine lv_iconst (v := (nI 0)) hx hb dX6_areGenerators_29 (by decide) ?_
            refine lv_istore (lv' := [(5, .int (nI 0)), (4, .int (nI 0)), (3, .int (nI (t + 1))), (2, .int (zq (wn = 4 ∧ arI wt b9 t = true))), (0, .ref (A 0)), (1, .int (nI b9))]) hx hb dX6_areGenerators_30 hl (by decide) rfl (fun ls hl => ?_)
            have L32 : ∀ (n9 : Nat) (i : Nat) (hi : i ≤ 4), 4 - i < n9 → ∀ ls : Array Slot, lv_has ls 6 [(5, .int (nI i)), (4, .int (nI (gw wt (t + 1) i))), (3, .int (nI (t + 1))), (2, .int (zq (arJ wt b9 i = true))), (0, .ref (A 0)), (1, .int (nI b9))] → W p l e R s m args below meth c s.heap [] 0 0 Q (F0 m 32 ls []) := by
              intro n9
              induction n9 with
              | zero => intro i hi hn9; exact absurd hn9 (Nat.not_lt_zero _)
              | succ n9 ih9 =>
                have ih32 := ih9
                clear ih9
                intro i hi hn9 ls hl
                refine lv_iload hx hb dX6_areGenerators_32 (lv_at hl 0 rfl) ?_
                refine lv_iconst (v := (nI 4)) hx hb dX6_areGenerators_34 (by decide) ?_
                refine zn_icmp_ge (tgt := 93)  hx hb dX6_areGenerators_35 (by decide) (by omega) (by omega) (fun c35 => ?_) (fun c35 => ?_)
                · obtain rfl : i = 4 := by omega
                  have hgw9 := gw_1024 (s := t + 1) kwt
                  refine lv_iload_n hx hb dX6_areGenerators_93 rfl (lv_at hl 3 rfl) ?_
                  have J107 : W p l e R s m args below meth c s.heap [] 0 0 Q (F0 m 107 ls [.int (zq (arJ wt b9 4 = true ∧ ¬ gw wt (t + 1) 4 = 0))]) := by
                    refine lv_istore_n (lv' := [(2, .int (zq (arJ wt b9 4 = true ∧ ¬ gw wt (t + 1) 4 = 0))), (5, .int (nI 4)), (4, .int (nI (gw wt (t + 1) 4))), (3, .int (nI (t + 1))), (0, .ref (A 0)), (1, .int (nI b9))]) hx hb dX6_areGenerators_107 rfl hl (by decide) rfl (fun ls hl => ?_)
                    refine lv_iinc (v := (nI (t + 1 + 1))) (lv' := [(3, .int (nI (t + 1 + 1))), (2, .int (zq (arJ wt b9 4 = true ∧ ¬ gw wt (t + 1) 4 = 0))), (5, .int (nI 4)), (4, .int (nI (gw wt (t + 1) 4))), (0, .ref (A 0)), (1, .int (nI b9))]) hx hb dX6_areGenerators_108 hl (k := 3) rfl (zinc _) (by decide) rfl (fun ls hl => ?_)
                    refine lv_goto (tgt := 16) hx hb dX6_areGenerators_111 (by decide) ?_
                    rw [show (.int (zq (arJ wt b9 4 = true ∧ ¬ gw wt (t + 1) 4 = 0)) : Value) = .int (zq (wn = 4 ∧ arI wt b9 (t + 1) = true)) from congrArg _ (zq_iff (show _ ↔ (wn = 4 ∧ (arI wt b9 t && (arJ wt b9 4 && !(gw wt (t + 1) 4 == 0))) = true) from by rw [Bool.and_eq_true, Bool.and_eq_true]; exact zAreB c23))] at hl
                    exact ih16 (t + 1) (by omega) (by omega) ls (lv_sub hl [0, 1, 4, 5] rfl)
                  refine zb_if_eq (tgt := 106)  hx hb dX6_areGenerators_94 (by decide)  (fun c94 => ?_) (fun c94 => ?_)
                  · refine lv_iconst (v := (nI 0)) hx hb dX6_areGenerators_106 (by decide) ?_
                    refine zt_i (v := (zq (arJ wt b9 4 = true ∧ ¬ gw wt (t + 1) 4 = 0))) (by first | exact zq_nt ⟨c94, c99⟩ | exact zq_nf (fun h => h.2 c99) | exact zq_nf (fun h => c94 h.1)) ?_
                    exact J107
                  · refine lv_iload hx hb dX6_areGenerators_97 (lv_at hl 1 rfl) ?_
                    refine zn_if_eq (tgt := 106)  hx hb dX6_areGenerators_99 (by decide) (by omega) (fun c99 => ?_) (fun c99 => ?_)
                    · refine lv_iconst (v := (nI 0)) hx hb dX6_areGenerators_106 (by decide) ?_
                      refine zt_i (v := (zq (arJ wt b9 4 = true ∧ ¬ gw wt (t + 1) 4 = 0))) (by first | exact zq_nt ⟨c94, c99⟩ | exact zq_nf (fun h => h.2 c99) | exact zq_nf (fun h => c94 h.1)) ?_
                      exact J107
                    · refine lv_iconst (v := (nI 1)) hx hb dX6_areGenerators_102 (by decide) ?_
                      refine lv_goto (tgt := 107) hx hb dX6_areGenerators_103 (by decide) ?_
                      refine zt_i (v := (zq (arJ wt b9 4 = true ∧ ¬ gw wt (t + 1) 4 = 0))) (by first | exact zq_nt ⟨c94, c99⟩ | exact zq_nf (fun h => h.2 c99) | exact zq_nf (fun h => c94 h.1)) ?_
                      exact J107
                · have hv9 := kwt i (by omega)
                  refine lv_iload hx hb dX6_areGenerators_38 (lv_at hl 1 rfl) ?_
                  refine lv_iload_n hx hb dX6_areGenerators_40 rfl (lv_at hl 2 rfl) ?_
                  refine lv_iload hx hb dX6_areGenerators_41 (lv_at hl 0 rfl) ?_
                  refine zv_ishr hx hb (v := (nI ((t + 1) / 2 ^ i))) dX6_areGenerators_43 (zShr (by omega) (by omega)) ?_
                  refine lv_iconst (v := (nI 1)) hx hb dX6_areGenerators_44 (by decide) ?_
                  refine zv_iand hx hb (v := (nI (((t + 1) / 2 ^ i) % 2))) dX6_areGenerators_45 (znand1 _) ?_
                  refine lv_iconst (v := (nI 1)) hx hb dX6_areGenerators_46 (by decide) ?_
                  have J61 : W p l e R s m args below meth c s.heap [] 0 0 Q (F0 m 61 ls [.int (nI (if (t + 1) / 2 ^ i % 2 = 1 then wt i else 0)), .int (nI (gw wt (t + 1) i))]) := by
                    refine zv_ixor hx hb (v := (nI ((gw wt (t + 1) i) ^^^ (if (t + 1) / 2 ^ i % 2 = 1 then wt i else 0)))) dX6_areGenerators_61 (nx_xor _ _) ?_
                    refine lv_istore (lv' := [(4, .int (nI ((gw wt (t + 1) i) ^^^ (if (t + 1) / 2 ^ i % 2 = 1 then wt i else 0)))), (5, .int (nI i)), (3, .int (nI (t + 1))), (2, .int (zq (arJ wt b9 i = true))), (0, .ref (A 0)), (1, .int (nI b9))]) hx hb dX6_areGenerators_62 hl (by decide) rfl (fun ls hl => ?_)
                    refine lv_iload_n hx hb dX6_areGenerators_64 rfl (lv_at hl 3 rfl) ?_
                    have J86 : W p l e R s m args below meth c s.heap [] 0 0 Q (F0 m 86 ls [.int (zq (arJ wt b9 (i + 1) = true))]) := by
                      refine lv_istore_n (lv' := [(2, .int (zq (arJ wt b9 (i + 1) = true))), (4, .int (nI ((gw wt (t + 1) i) ^^^ (if (t + 1) / 2 ^ i % 2 = 1 then wt i else 0)))), (5, .int (nI i)), (3, .int (nI (t + 1))), (0, .ref (A 0)), (1, .int (nI b9))]) hx hb dX6_areGenerators_86 rfl hl (by decide) rfl (fun ls hl => ?_)
                      refine lv_iinc (v := (nI (i + 1))) (lv' := [(5, .int (nI (i + 1))), (2, .int (zq (arJ wt b9 (i + 1) = true))), (4, .int (nI ((gw wt (t + 1) i) ^^^ (if (t + 1) / 2 ^ i % 2 = 1 then wt i else 0)))), (3, .int (nI (t + 1))), (0, .ref (A 0)), (1, .int (nI b9))]) hx hb dX6_areGenerators_87 hl (k := 2) rfl (zinc _) (by decide) rfl (fun ls hl => ?_)
                      refine lv_goto (tgt := 32) hx hb dX6_areGenerators_90 (by decide) ?_
                      exact ih32 (i + 1) (by omega) (by omega) ls (lv_sub hl [0, 2, 3, 1, 4, 5] rfl)
                    refine zb_if_eq (tgt := 85)  hx hb dX6_areGenerators_65 (by decide)  (fun c65 => ?_) (fun c65 => ?_)
                    · refine lv_iconst (v := (nI 0)) hx hb dX6_areGenerators_85 (by decide) ?_
                      refine zt_i (v := (zq (arJ wt b9 (i + 1) = true))) (by first | exact zq_nt (show (arJ wt b9 i && decide (wt i < 2 ^ b9)) = true by rw [c65, decide_eq_true (by omega)]; rfl) | exact zq_nf (show ¬ (arJ wt b9 i && decide (wt i < 2 ^ b9)) = true by rw [Bool.and_eq_true]; exact fun h => c65 h.1) | exact zq_nf (show ¬ (arJ wt b9 i && decide (wt i < 2 ^ b9)) = true by rw [Bool.and_eq_true]; exact fun h => absurd (of_decide_eq_true h.2) (by omega))) ?_
                      exact J86
                    · refine lv_aload_n hx hb dX6_areGenerators_68 rfl (lv_at hl 4 rfl) ?_
                      refine va_get (D := D) (ci := 6) (v := .ref (A 3)) (C := RX6) (T := TX6) (N := 17) hx hb hts qX6_areGenerators_inX6 hown hK hP 0 rfl rfl 3 (by decide) (hts _ qX6_areGenerators_Cond_fieldLink_RX6_16_NestedCodesModel_waiting_I_) (fun _ h9 => h9) rfl dX6_areGenerators_69 ?_
                      refine lv_iload hx hb dX6_areGenerators_72 (lv_at hl 1 rfl) ?_
                      refine za_i hx hb hK hP 3 (f := fun k9 => nI (wt k9)) (v := (nI (wt i))) rfl (by omega) (by decide) dX6_areGenerators_74 (rfl) ?_
                      refine lv_iconst (v := (nI 1)) hx hb dX6_areGenerators_75 (by decide) ?_
                      refine lv_iload_n hx hb dX6_areGenerators_76 rfl (lv_at hl 5 rfl) ?_
                      refine zv_ishl hx hb (v := (nI (2 ^ b9))) dX6_areGenerators_77 (by rw [zShl (by omega) (by omega), Nat.one_mul]) ?_
                      refine zn_icmp_ge (tgt := 85)  hx hb dX6_areGenerators_78 (by decide) (by omega) (by omega) (fun c78 => ?_) (fun c78 => ?_)
                      · refine lv_iconst (v := (nI 0)) hx hb dX6_areGenerators_85 (by decide) ?_
                        refine zt_i (v := (zq (arJ wt b9 (i + 1) = true))) (by first | exact zq_nt (show (arJ wt b9 i && decide (wt i < 2 ^ b9)) = true by rw [c65, decide_eq_true (by omega)]; rfl) | exact zq_nf (show ¬ (arJ wt b9 i && decide (wt i < 2 ^ b9)) = true by rw [Bool.and_eq_true]; exact fun h => c65 h.1) | exact zq_nf (show ¬ (arJ wt b9 i && decide (wt i < 2 ^ b9)) = true by rw [Bool.and_eq_true]; exact fun h => absurd (of_decide_eq_true h.2) (by omega))) ?_
                        exact J86
                      · refine lv_iconst (v := (nI 1)) hx hb dX6_areGenerators_81 (by decide) ?_
                        refine lv_goto (tgt := 86) hx hb dX6_areGenerators_82 (by decide) ?_
                        refine zt_i (v := (zq (arJ wt b9 (i + 1) = true))) (by first | exact zq_nt (show (arJ wt b9 i && decide (wt i < 2 ^ b9)) = true by rw [c65, decide_eq_true (by omega)]; rfl) | exact zq_nf (show ¬ (arJ wt b9 i && decide (wt i < 2 ^ b9)) = true by rw [Bool.and_eq_true]; exact fun h => c65 h.1) | exact zq_nf (show ¬ (arJ wt b9 i && decide (wt i < 2 ^ b9)) = true by rw [Bool.and_eq_true]; exact fun h => absurd (of_decide_eq_true h.2) (by omega))) ?_
                        exact J86
                  refine zn_icmp_ne (tgt := 60)  hx hb dX6_areGenerators_47 (by decide) (by omega) (by omega) (fun c47 => ?_) (fun c47 => ?_)
                  · refine lv_iconst (v := (nI 0)) hx hb dX6_areGenerators_60 (by decide) ?_
                    refine zt_i (v := (nI (if (t + 1) / 2 ^ i % 2 = 1 then wt i else 0))) (congrArg nI (by first | rw [if_pos (by omega)] | rw [if_neg (by omega)])) ?_
                    exact J61
                  · refine lv_aload_n hx hb dX6_areGenerators_50 rfl (lv_at hl 4 rfl) ?_
                    refine va_get (D := D) (ci := 6) (v := .ref (A 3)) (C := RX6) (T := TX6) (N := 17) hx hb hts qX6_areGenerators_inX6 hown hK hP 0 rfl rfl 3 (by decide) (hts _ qX6_areGenerators_Cond_fieldLink_RX6_16_NestedCodesModel_waiting_I_) (fun _ h9 => h9) rfl dX6_areGenerators_51 ?_
                    refine lv_iload hx hb dX6_areGenerators_54 (lv_at hl 0 rfl) ?_
                    refine za_i hx hb hK hP 3 (f := fun k9 => nI (wt k9)) (v := (nI (wt i))) rfl (by omega) (by decide) dX6_areGenerators_56 (rfl) ?_
                    refine lv_goto (tgt := 61) hx hb dX6_areGenerators_57 (by decide) ?_
                    refine zt_i (v := (nI (if (t + 1) / 2 ^ i % 2 = 1 then wt i else 0))) (congrArg nI (by first | rw [if_pos (by omega)] | rw [if_neg (by omega)])) ?_
                    exact J61
            rw [show (.int (zq (wn = 4 ∧ arI wt b9 t = true)) : Value) = .int (zq (arJ wt b9 0 = true)) from congrArg _ (zq_iff ⟨fun _ => rfl, fun _ => c23⟩)] at hl
            exact L32 (4 - 0 + 1) 0 (by omega) (Nat.lt_succ_self _) ls (lv_sub hl [0, 1, 2, 3, 4, 5] rfl)
    rw [show (.int (zq (wn = 4)) : Value) = .int (zq (wn = 4 ∧ arI wt b9 0 = true)) from congrArg _ (zq_iff ⟨fun h => ⟨h, rfl⟩, fun h => h.1⟩)] at hl
    exact L16 (15 - 0 + 1) 0 (by omega) (Nat.lt_succ_self _) ls (lv_sub hl [0, 1, 2, 3] rfl)
  refine zn_icmp_ne (tgt := 12)  hx hb dX6_areGenerators_5 (by decide) (by omega) (by omega) (fun c5 => ?_) (fun c5 => ?_)
  · refine lv_iconst (v := (nI 0)) hx hb dX6_areGenerators_12 (by decide) ?_
    refine zt_i (v := (zq (wn = 4))) (by first | exact zq_nt (by omega) | exact zq_nf (by omega)) ?_
    exact J13
  · refine lv_iconst (v := (nI 1)) hx hb dX6_areGenerators_8 (by decide) ?_
    refine lv_goto (tgt := 13) hx hb dX6_areGenerators_9 (by decide) ?_
    refine zt_i (v := (zq (wn = 4))) (by first | exact zq_nt (by omega) | exact zq_nf (by omega)) ?_
    exact J13
set_option maxHeartbeats 4000000 in
set_option maxRecDepth 100000 in
theorem c_X6_setInner_bad (l : Launch) (D : va_G) (Y : Nat → ClassId) (A : Nat → Nat) (σ : Nat → Nat) (hf : Nat → Nat) (hn : Nat) (wt : Nat → Nat) (wn : Nat) (sy : Nat → Nat) (gp : Nat → Nat) (i0 : Nat → Nat) (i1 : Nat → Nat) (i2 : Nat → Nat) (i3 : Nat → Nat) (fo : Int32) (de : Int32) (x : Int32)  (kσ : zWF σ) (ksy : ∀ w9, w9 < 2 ^ (σ 2) → sy w9 = syS σ w9) (kgp : ∀ w9, w9 < 2 ^ (σ 2) → gp w9 = gpS σ w9) (hbad : ¬ (4 ≤ (x).toInt ∧ (x).toInt ≤ 10)) : Met l yX6_setInner wsX6_setInner ({ frames := 2, cells := 0, slots := 0, locals := 45 } : Room) (va_Pc [.ref (A 0), .int (x)] (zB D Y (MX Y A σ hf hn wt wn tmS cdS (wdS σ) sy gp (ddS σ) i0 i1 i2 i3 fo de))) (zR (.int (-1001))) 0 0 (fun _ => False) := by
  refine zr_of (cc := cX6_setInner) (maxL := 3) (ret := (some .int)) (by decide) rfl (Nat.le_of_ble_eq_true rfl) ?_
  intro p e s m below meth c R args Q hR hx hb hml hr hlk hown hts hK hN hP hQ ls hl
  have hown : s.vm.findClass RX6 = some m.cls := hown
  have hl : lv_has ls 3 [(0, .ref (A 0)), (1, .int (x))] := hl
  have kw := kσ
  obtain ⟨n3, n12, d1, d3, dn, b4, b10, gl, lm, sn, wl, wnz⟩ := kw
  have pb := zp_b b10
  have pk9 := zp_k d3
  refine lv_iload_n hx hb dX6_setInner_0 rfl (lv_at hl 1 rfl) ?_
  refine lv_iconst (v := (nI 4)) hx hb dX6_setInner_1 (by decide) ?_
  refine lv_bipush (v := (nI 10)) hx hb dX6_setInner_2 (by decide) ?_
  refine zc_r (va_runS (As := [.int (x), .int (nI 4), .int (nI 10)]) (rest := []) ⟨hx, hb, hml, hown, hts⟩ (c_X6_in l D Y  x ((nI 4)) ((nI 10)) ) (va_cwS 3 hts gX6_setInner_X6_in rfl rfl rfl (by decide +kernel) (by rw [hR]; exact ⟨Nat.le_of_ble_eq_true rfl, Nat.le_of_ble_eq_true rfl⟩)) ⟨zB_blind, (zp_r (v := [.int (x), .int (nI 4), .int (nI 10)]) (fun k q h => absurd h (by simp)) hK hN)⟩ rfl rfl hl.1 rfl (lv_room (Nat.le_of_ble_eq_true rfl)) dX6_setInner_4 ⟨Nat.zero_le _, Nat.zero_le _⟩).run ?_
  have h4a : ((nI 4)).toInt = _ := zt_n (by omega)
  have h4b : ((nI 10)).toInt = _ := zt_n (by omega)
  refine zb_if_ne (tgt := 14)  hx hb dX6_setInner_7 (by decide)  (fun c7 => ?_) (fun c7 => ?_)
  · exact absurd c7 (by omega)
  · refine lv_sipush (v := (-1001)) hx hb dX6_setInner_10 (by decide) ?_
    exact zr_i hx hb hr hlk hQ dX6_setInner_13 (rfl)
set_option maxHeartbeats 4000000 in
set_option maxRecDepth 100000 in
theorem c_X6_setInner_not (l : Launch) (D : va_G) (Y : Nat → ClassId) (A : Nat → Nat) (σ : Nat → Nat) (hf : Nat → Nat) (hn : Nat) (wt : Nat → Nat) (wn : Nat) (sy : Nat → Nat) (gp : Nat → Nat) (i0 : Nat → Nat) (i1 : Nat → Nat) (i2 : Nat → Nat) (i3 : Nat → Nat) (fo : Int32) (de : Int32) (b9 : Nat)  (kσ : zWF σ) (ksy : ∀ w9, w9 < 2 ^ (σ 2) → sy w9 = syS σ w9) (kgp : ∀ w9, w9 < 2 ^ (σ 2) → gp w9 = gpS σ w9) (kwt : ∀ j, j < 4 → wt j < 1024) (kwn : wn ≤ 4) (hb4 : 4 ≤ b9) (hb9 : b9 ≤ 10) (hbad : ¬ (wn = 4 ∧ genOk wt b9 = true)) : Met l yX6_setInner wsX6_setInner ({ frames := 2, cells := 0, slots := 0, locals := 45 } : Room) (va_Pc [.ref (A 0), .int (nI b9)] (zB D Y (MX Y A σ hf hn wt wn tmS cdS (wdS σ) sy gp (ddS σ) i0 i1 i2 i3 fo de))) (zR (.int (-1002))) 0 0 (fun _ => False) := by
  refine zr_of (cc := cX6_setInner) (maxL := 3) (ret := (some .int)) (by decide) rfl (Nat.le_of_ble_eq_true rfl) ?_
  intro p e s m below meth c R args Q hR hx hb hml hr hlk hown hts hK hN hP hQ ls hl
  have hown : s.vm.findClass RX6 = some m.cls := hown
  have hl : lv_has ls 3 [(0, .ref (A 0)), (1, .int (nI b9))] := hl
  have kw := kσ
  obtain ⟨n3, n12, d1, d3, dn, b4, b10, gl, lm, sn, wl, wnz⟩ := kw
  have pb := zp_b b10
  have pk9 := zp_k d3
  refine lv_iload_n hx hb dX6_setInner_0 rfl (lv_at hl 1 rfl) ?_
  refine lv_iconst (v := (nI 4)) hx hb dX6_setInner_1 (by decide) ?_
  refine lv_bipush (v := (nI 10)) hx hb dX6_setInner_2 (by decide) ?_
  refine zc_r (va_runS (As := [.int (nI b9), .int (nI 4), .int (nI 10)]) (rest := []) ⟨hx, hb, hml, hown, hts⟩ (c_X6_in l D Y  ((nI b9)) ((nI 4)) ((nI 10)) ) (va_cwS 3 hts gX6_setInner_X6_in rfl rfl rfl (by decide +kernel) (by rw [hR]; exact ⟨Nat.le_of_ble_eq_true rfl, Nat.le_of_ble_eq_true rfl⟩)) ⟨zB_blind, (zp_r (v := [.int (nI b9), .int (nI 4), .int (nI 10)]) (fun k q h => absurd h (by simp)) hK hN)⟩ rfl rfl hl.1 rfl (lv_room (Nat.le_of_ble_eq_true rfl)) dX6_setInner_4 ⟨Nat.zero_le _, Nat.zero_le _⟩).run ?_
  have h4v : ((nI b9)).toInt = _ := zt_n (by omega)
  have h4a : ((nI 4)).toInt = _ := zt_n (by omega)
  have h4b : ((nI 10)).toInt = _ := zt_n (by omega)
  refine zb_if_ne (tgt := 14)  hx hb dX6_setInner_7 (by decide)  (fun c7 => ?_) (fun c7 => ?_)
  · refine lv_aload_n hx hb dX6_setInner_14 rfl (lv_at hl 0 rfl) ?_
    refine lv_iload_n hx hb dX6_setInner_15 rfl (lv_at hl 1 rfl) ?_
    refine zc_r (va_runV (As := [.int (nI b9)]) (rest := []) ⟨hx, hb, hml, hown, hts⟩ (c_X6_areGenerators l D Y A σ hf hn wt wn tmS cdS (wdS σ) sy gp (ddS σ) i0 i1 i2 i3 fo de b9 kwt kwn (by omega)) (cwV 1 hts gX6_setInner_X6_areGenerators rfl rfl rfl (by decide +kernel) (by rw [hR]; exact ⟨Nat.le_of_ble_eq_true rfl, Nat.le_of_ble_eq_true rfl⟩)) ⟨zB_blind, va_recv hK hP (ci := 6) (q0 := 0) rfl rfl, zp_r hP hK hN⟩ rfl rfl hl.1 rfl (lv_room (Nat.le_of_ble_eq_true rfl)) dX6_setInner_16 ⟨Nat.zero_le _, Nat.zero_le _⟩).run ?_
    refine zb_if_ne (tgt := 26)  hx hb dX6_setInner_19 (by decide)  (fun c19 => ?_) (fun c19 => ?_)
    · exact absurd c19 hbad
    · refine lv_sipush (v := (-1002)) hx hb dX6_setInner_22 (by decide) ?_
      exact zr_i hx hb hr hlk hQ dX6_setInner_25 (rfl)
  · exact absurd c7 (by omega)
theorem qX6_setInner_Cond_fieldLink_RX6_7_NestedCodesModel_d_I_ : Cond.fieldLink RX6 7 "NestedCodesModel" "d" "[I" ∈ wsX6_setInner := by decide +kernel
theorem qX6_setInner_inX6 : ∀ w ∈ wsX60, w ∈ wsX6_setInner := by decide +kernel
theorem qX6_setInner_Cond_fieldLink_RX6_80_NestedCodesModel_waits_I_ : Cond.fieldLink RX6 80 "NestedCodesModel" "waits" "I" ∈ wsX6_setInner := by decide +kernel
theorem qX6_setInner_Cond_fieldLink_RX6_55_NestedCodesModel_least_I_ : Cond.fieldLink RX6 55 "NestedCodesModel" "least" "I" ∈ wsX6_setInner := by decide +kernel
theorem qX6_setInner_Cond_fieldLink_RX6_16_NestedCodesModel_waiting_I_ : Cond.fieldLink RX6 16 "NestedCodesModel" "waiting" "[I" ∈ wsX6_setInner := by decide +kernel
set_option maxHeartbeats 4000000 in
set_option maxRecDepth 100000 in
theorem c_X6_setInner (l : Launch) (D : va_G) (Y : Nat → ClassId) (A : Nat → Nat) (σ : Nat → Nat) (hf : Nat → Nat) (hn : Nat) (wt : Nat → Nat) (wn : Nat) (sy : Nat → Nat) (gp : Nat → Nat) (i0 : Nat → Nat) (i1 : Nat → Nat) (i2 : Nat → Nat) (i3 : Nat → Nat) (fo : Int32) (de : Int32) (b9 : Nat)  (kσ : zWF σ) (ksy : ∀ w9, w9 < 2 ^ (σ 2) → sy w9 = syS σ w9) (kgp : ∀ w9, w9 < 2 ^ (σ 2) → gp w9 = gpS σ w9) (khn : hn ≤ 6) (kwt : ∀ j, j < 4 → wt j < 1024) (hb4 : 4 ≤ b9) (hb9 : b9 ≤ 10) (hw4 : wn = 4) (hok : genOk wt b9 = true) : Met l yX6_setInner wsX6_setInner ({ frames := 2, cells := 0, slots := 0, locals := 45 } : Room) (va_Pc [.ref (A 0), .int (nI b9)] (zBw D Y (MX Y A σ hf hn wt wn tmS cdS (wdS σ) sy gp (ddS σ) i0 i1 i2 i3 fo de))) (zW (some (.int (nI (ddS (innS σ wt b9))))) D (MX Y A (innS σ wt b9) (recF hf hn σ) (recN hn) wt 0 tmS cdS (wdS (innS σ wt b9)) (zmx (2 ^ ((innS σ wt b9) 2)) (syS (innS σ wt b9)) sy) (zmx (2 ^ ((innS σ wt b9) 2)) (gpS (innS σ wt b9)) gp) (ddS (innS σ wt b9)) i0 i1 i2 i3 fo de) (zA (MX Y A σ hf hn wt wn tmS cdS (wdS σ) sy gp (ddS σ) i0 i1 i2 i3 fo de))) 0 0 (zA (MX Y A σ hf hn wt wn tmS cdS (wdS σ) sy gp (ddS σ) i0 i1 i2 i3 fo de)) := by
  refine zw_of (cc := cX6_setInner) (maxL := 3) (ret := (some .int)) (by decide) rfl (Nat.le_of_ble_eq_true rfl) ?_
  intro p e s m below meth c R args Q FA hR hx hb hml hr hlk hown hts hK hN hQ hP hD hS ls hl
  have hown : s.vm.findClass RX6 = some m.cls := hown
  have hl : lv_has ls 3 [(0, .ref (A 0)), (1, .int (nI b9))] := hl
  have hS := hS
  have kw := kσ
  obtain ⟨n3, n12, d1, d3, dn, b4, b10, gl, lm, sn, wl, wnz⟩ := kw
  have pb := zp_b b10
  have pk9 := zp_k d3
  suffices hgo : ∀ (H : Heap) (locs : List Loc), va_P D vwCl (MX Y A σ hf hn wt wn tmS cdS (wdS σ) sy gp (ddS σ) i0 i1 i2 i3 fo de) H → va_S FA s.heap H locs → W p l e R s m args below meth c H locs 0 0 Q (F0 m 0 ls []) from hgo _ _ hP hS
  clear hP hS
  intro H locs hP hS
  refine lv_iload_n hx hb dX6_setInner_0 rfl (lv_at hl 1 rfl) ?_
  refine lv_iconst (v := (nI 4)) hx hb dX6_setInner_1 (by decide) ?_
  refine lv_bipush (v := (nI 10)) hx hb dX6_setInner_2 (by decide) ?_
  refine zc_r (va_runS (As := [.int (nI b9), .int (nI 4), .int (nI 10)]) (rest := []) ⟨hx, hb, hml, hown, hts⟩ (c_X6_in l D Y  ((nI b9)) ((nI 4)) ((nI 10)) ) (va_cwS 3 hts gX6_setInner_X6_in rfl rfl rfl (by decide +kernel) (by rw [hR]; exact ⟨Nat.le_of_ble_eq_true rfl, Nat.le_of_ble_eq_true rfl⟩)) ⟨zB_blind, (zp_r (v := [.int (nI b9), .int (nI 4), .int (nI 10)]) (fun k q h => absurd h (by simp)) hK hN)⟩ rfl rfl hl.1 rfl (lv_room (Nat.le_of_ble_eq_true rfl)) dX6_setInner_4 ⟨Nat.zero_le _, Nat.zero_le _⟩).run ?_
  have h4v : ((nI b9)).toInt = _ := zt_n (by omega)
  have h4a : ((nI 4)).toInt = _ := zt_n (by omega)
  have h4b : ((nI 10)).toInt = _ := zt_n (by omega)
  refine zb_if_ne (tgt := 14)  hx hb dX6_setInner_7 (by decide)  (fun c7 => ?_) (fun c7 => ?_)
  · refine lv_aload_n hx hb dX6_setInner_14 rfl (lv_at hl 0 rfl) ?_
    refine lv_iload_n hx hb dX6_setInner_15 rfl (lv_at hl 1 rfl) ?_
    refine zc_r (va_runV (As := [.int (nI b9)]) (rest := []) ⟨hx, hb, hml, hown, hts⟩ (c_X6_areGenerators l D Y A σ hf hn wt wn tmS cdS (wdS σ) sy gp (ddS σ) i0 i1 i2 i3 fo de b9 kwt (by omega) (by omega)) (cwV 1 hts gX6_setInner_X6_areGenerators rfl rfl rfl (by decide +kernel) (by rw [hR]; exact ⟨Nat.le_of_ble_eq_true rfl, Nat.le_of_ble_eq_true rfl⟩)) ⟨zB_blind, va_recv hK hP (ci := 6) (q0 := 0) rfl rfl, zp_r hP hK hN⟩ rfl rfl hl.1 rfl (lv_room (Nat.le_of_ble_eq_true rfl)) dX6_setInner_16 ⟨Nat.zero_le _, Nat.zero_le _⟩).run ?_
    refine zb_if_ne (tgt := 26)  hx hb dX6_setInner_19 (by decide)  (fun c19 => ?_) (fun c19 => ?_)
    · refine lv_aload_n hx hb dX6_setInner_26 rfl (lv_at hl 0 rfl) ?_
      refine zc_w (va_runV (As := []) (rest := []) ⟨hx, hb, hml, hown, hts⟩ (c_X6_records l D Y A σ hf hn wt wn tmS cdS (wdS σ) sy gp (ddS σ) i0 i1 i2 i3 fo de  khn) (cwV 0 hts gX6_setInner_X6_records rfl rfl rfl (by decide +kernel) (by rw [hR]; exact ⟨Nat.le_of_ble_eq_true rfl, Nat.le_of_ble_eq_true rfl⟩)) ⟨zBw_blind, va_recv hK hP (ci := 6) (q0 := 0) rfl rfl, zp_w hP hD hK hN⟩ rfl rfl hl.1 rfl (lv_room (Nat.le_of_ble_eq_true rfl)) dX6_setInner_27 ⟨Nat.zero_le _, Nat.zero_le _⟩).run hS (zA_of hD) (fun H locs hP hz hk hS => ?_)
      have hD : va_D FA (MX Y A σ (recF hf hn σ) (recN hn) wt wn tmS cdS (wdS σ) sy gp (ddS σ) i0 i1 i2 i3 fo de) := MX_dd hD
      refine lv_aload_n hx hb dX6_setInner_30 rfl (lv_at hl 0 rfl) ?_
      refine va_get (D := D) (ci := 6) (v := .ref (A 1)) (C := RX6) (T := TX6) (N := 17) hx hb hts qX6_setInner_inX6 hown hK hP 0 rfl rfl 0 (by decide) (hts _ qX6_setInner_Cond_fieldLink_RX6_7_NestedCodesModel_d_I_) (fun _ h9 => h9) rfl dX6_setInner_31 ?_
      refine lv_iconst (v := (nI 2)) hx hb dX6_setInner_34 (by decide) ?_
      refine lv_iload_n hx hb dX6_setInner_35 rfl (lv_at hl 1 rfl) ?_
      refine zs_i hx hb hK hP hD hS 1 (f := fun k9 => nI (σ k9)) rfl (by omega) (by decide) dX6_setInner_36 (fun H locs hP hD9 hS => ?_)
      rw [zupd] at hP
      rw [MX_s1] at hP
      have hP : va_P D vwCl (MX Y A (va_up σ 2 b9) (recF hf hn σ) (recN hn) wt wn tmS cdS (wdS σ) sy gp (ddS σ) i0 i1 i2 i3 fo de) H := hP
      have hD : va_D FA (MX Y A (va_up σ 2 b9) (recF hf hn σ) (recN hn) wt wn tmS cdS (wdS σ) sy gp (ddS σ) i0 i1 i2 i3 fo de) := MX_dd hD
      clear hD9
      refine lv_iconst (v := (nI 0)) hx hb dX6_setInner_37 (by decide) ?_
      refine lv_istore_n (lv' := [(2, .int (nI 0)), (0, .ref (A 0)), (1, .int (nI b9))]) hx hb dX6_setInner_38 rfl hl (by decide) rfl (fun ls hl => ?_)
      have L39 : ∀ (n9 : Nat) (i : Nat) (hi : i ≤ 4), 4 - i < n9 → ∀ (H : Heap) (locs : List Loc), va_P D vwCl (MX Y A (genI σ wt b9 i) (recF hf hn σ) (recN hn) wt wn tmS cdS (wdS σ) sy gp (ddS σ) i0 i1 i2 i3 fo de) H → va_D FA (MX Y A (genI σ wt b9 i) (recF hf hn σ) (recN hn) wt wn tmS cdS (wdS σ) sy gp (ddS σ) i0 i1 i2 i3 fo de) → va_S FA s.heap H locs → ∀ ls : Array Slot, lv_has ls 3 [(2, .int (nI i)), (0, .ref (A 0)), (1, .int (nI b9))] → W p l e R s m args below meth c H locs 0 0 Q (F0 m 39 ls []) := by
        intro n9
        induction n9 with
        | zero => intro i hi hn9; exact absurd hn9 (Nat.not_lt_zero _)
        | succ n9 ih9 =>
          have ih39 := ih9
          clear ih9
          intro i hi hn9 H locs hP hD hS ls hl
          refine lv_iload_n hx hb dX6_setInner_39 rfl (lv_at hl 0 rfl) ?_
          refine lv_iconst (v := (nI 4)) hx hb dX6_setInner_40 (by decide) ?_
          refine zn_icmp_ge (tgt := 64)  hx hb dX6_setInner_41 (by decide) (by omega) (by omega) (fun c41 => ?_) (fun c41 => ?_)
          · obtain rfl : i = 4 := by omega
            refine lv_aload_n hx hb dX6_setInner_64 rfl (lv_at hl 1 rfl) ?_
            refine lv_iconst (v := (nI 0)) hx hb dX6_setInner_65 (by decide) ?_
            refine va_put (D := D) (ci := 6) (v := .int (nI 0)) (ty := .int) (C := RX6) (T := TX6) (N := 17) hx hb hts qX6_setInner_inX6 tyX6 tyX6_ok nmX6 hown hK hP hD hS 0 rfl rfl 4 (by decide) (hts _ qX6_setInner_Cond_fieldLink_RX6_80_NestedCodesModel_waits_I_) (fun _ h9 => h9) rfl (by decide +kernel) rfl rfl (Nat.le_of_ble_eq_true rfl) dX6_setInner_66 (fun H locs hP hD9 hS => ?_)
            rw [MX_f_wn] at hP
            have hP : va_P D vwCl (MX Y A (genI σ wt b9 4) (recF hf hn σ) (recN hn) wt 0 tmS cdS (wdS σ) sy gp (ddS σ) i0 i1 i2 i3 fo de) H := hP
            have hD : va_D FA (MX Y A (genI σ wt b9 4) (recF hf hn σ) (recN hn) wt 0 tmS cdS (wdS σ) sy gp (ddS σ) i0 i1 i2 i3 fo de) := MX_dd hD
            clear hD9
            refine lv_aload_n hx hb dX6_setInner_69 rfl (lv_at hl 1 rfl) ?_
            refine zc_w (va_runV (As := []) (rest := []) ⟨hx, hb, hml, hown, hts⟩ (c_X6_empties l D Y A (genI σ wt b9 4) (recF hf hn σ) (recN hn) wt 0 tmS cdS (wdS σ) sy gp (ddS σ) i0 i1 i2 i3 fo de  ) (cwV 0 hts gX6_setInner_X6_empties rfl rfl rfl (by decide +kernel) (by rw [hR]; exact ⟨Nat.le_of_ble_eq_true rfl, Nat.le_of_ble_eq_true rfl⟩)) ⟨zBw_blind, va_recv hK hP (ci := 6) (q0 := 0) rfl rfl, zp_w hP hD hK hN⟩ rfl rfl hl.1 rfl (lv_room (Nat.le_of_ble_eq_true rfl)) dX6_setInner_70 ⟨Nat.zero_le _, Nat.zero_le _⟩).run hS (zA_of hD) (fun H locs hP hz hk hS => ?_)
            have hD : va_D FA (MX Y A (clr (genI σ wt b9 4)) (recF hf hn σ) (recN hn) wt 0 tmS cdS (wdS σ) sy gp (ddS σ) i0 i1 i2 i3 fo de) := MX_dd hD
            have hP : va_P D vwCl (MX Y A (innS σ wt b9) (recF hf hn σ) (recN hn) wt 0 tmS cdS (wdS σ) sy gp (ddS σ) i0 i1 i2 i3 fo de) H := hP
            have hD : va_D FA (MX Y A (innS σ wt b9) (recF hf hn σ) (recN hn) wt 0 tmS cdS (wdS σ) sy gp (ddS σ) i0 i1 i2 i3 fo de) := MX_dd hD
            refine lv_aload_n hx hb dX6_setInner_73 rfl (lv_at hl 1 rfl) ?_
            refine zc_w (va_runV (As := []) (rest := []) ⟨hx, hb, hml, hown, hts⟩ (c_X6_prepares l D Y A (innS σ wt b9) (recF hf hn σ) (recN hn) wt 0 tmS cdS (wdS σ) sy gp (ddS σ) i0 i1 i2 i3 fo de  (zWF_inn kσ hb4 hb9 hok)) (cwV 0 hts gX6_setInner_X6_prepares rfl rfl rfl (by decide +kernel) (by rw [hR]; exact ⟨Nat.le_of_ble_eq_true rfl, Nat.le_of_ble_eq_true rfl⟩)) ⟨zBw_blind, va_recv hK hP (ci := 6) (q0 := 0) rfl rfl, zp_w hP hD hK hN⟩ rfl rfl hl.1 rfl (lv_room (Nat.le_of_ble_eq_true rfl)) dX6_setInner_74 ⟨Nat.zero_le _, Nat.zero_le _⟩).run hS (zA_of hD) (fun H locs hP hz hk hS => ?_)
            have hD : va_D FA (MX Y A (innS σ wt b9) (recF hf hn σ) (recN hn) wt 0 tmS cdS (wdS (innS σ wt b9)) (zmx (2 ^ ((innS σ wt b9) 2)) (syS (innS σ wt b9)) sy) (zmx (2 ^ ((innS σ wt b9) 2)) (gpS (innS σ wt b9)) gp) (ddS (innS σ wt b9)) i0 i1 i2 i3 fo de) := MX_dd hD
            refine lv_aload_n hx hb dX6_setInner_77 rfl (lv_at hl 1 rfl) ?_
            refine va_get (D := D) (ci := 6) (v := .int (nI (ddS (innS σ wt b9)))) (C := RX6) (T := TX6) (N := 17) hx hb hts qX6_setInner_inX6 hown hK hP 0 rfl rfl 10 (by decide) (hts _ qX6_setInner_Cond_fieldLink_RX6_55_NestedCodesModel_least_I_) (fun _ h9 => h9) rfl dX6_setInner_78 ?_
            exact zw_i hx hb hr hlk hQ hS dX6_setInner_81 (rfl) (hP)
          · refine lv_aload_n hx hb dX6_setInner_44 rfl (lv_at hl 1 rfl) ?_
            refine va_get (D := D) (ci := 6) (v := .ref (A 1)) (C := RX6) (T := TX6) (N := 17) hx hb hts qX6_setInner_inX6 hown hK hP 0 rfl rfl 0 (by decide) (hts _ qX6_setInner_Cond_fieldLink_RX6_7_NestedCodesModel_d_I_) (fun _ h9 => h9) rfl dX6_setInner_45 ?_
            refine lv_iconst (v := (nI 3)) hx hb dX6_setInner_48 (by decide) ?_
            refine lv_iload_n hx hb dX6_setInner_49 rfl (lv_at hl 0 rfl) ?_
            refine zv_iadd hx hb (v := (nI (3 + i))) dX6_setInner_50 (nI_add _ _) ?_
            refine lv_aload_n hx hb dX6_setInner_51 rfl (lv_at hl 1 rfl) ?_
            refine va_get (D := D) (ci := 6) (v := .ref (A 3)) (C := RX6) (T := TX6) (N := 17) hx hb hts qX6_setInner_inX6 hown hK hP 0 rfl rfl 3 (by decide) (hts _ qX6_setInner_Cond_fieldLink_RX6_16_NestedCodesModel_waiting_I_) (fun _ h9 => h9) rfl dX6_setInner_52 ?_
            refine lv_iload_n hx hb dX6_setInner_55 rfl (lv_at hl 0 rfl) ?_
            refine za_i hx hb hK hP 3 (f := fun k9 => nI (wt k9)) (v := (nI (wt i))) rfl (by omega) (by decide) dX6_setInner_56 (rfl) ?_
            refine zs_i hx hb hK hP hD hS 1 (f := fun k9 => nI ((genI σ wt b9 i) k9)) rfl (by omega) (by decide) dX6_setInner_57 (fun H locs hP hD9 hS => ?_)
            rw [zupd] at hP
            rw [MX_s1] at hP
            have hP : va_P D vwCl (MX Y A (va_up (genI σ wt b9 i) (3 + i) (wt i)) (recF hf hn σ) (recN hn) wt wn tmS cdS (wdS σ) sy gp (ddS σ) i0 i1 i2 i3 fo de) H := hP
            have hD : va_D FA (MX Y A (va_up (genI σ wt b9 i) (3 + i) (wt i)) (recF hf hn σ) (recN hn) wt wn tmS cdS (wdS σ) sy gp (ddS σ) i0 i1 i2 i3 fo de) := MX_dd hD
            clear hD9
            refine lv_iinc (v := (nI (i + 1))) (lv' := [(2, .int (nI (i + 1))), (0, .ref (A 0)), (1, .int (nI b9))]) hx hb dX6_setInner_58 hl (k := 0) rfl (zinc _) (by decide) rfl (fun ls hl => ?_)
            refine lv_goto (tgt := 39) hx hb dX6_setInner_61 (by decide) ?_
            have e9 : (va_up (genI σ wt b9 i) (3 + i) (wt i)) = (genI σ wt b9 (i + 1)) := genI_up σ wt b9 i
            rw [e9] at hP
            clear e9
            have hP : va_P D vwCl (MX Y A (genI σ wt b9 (i + 1)) (recF hf hn σ) (recN hn) wt wn tmS cdS (wdS σ) sy gp (ddS σ) i0 i1 i2 i3 fo de) H := hP
            have hD : va_D FA (MX Y A (genI σ wt b9 (i + 1)) (recF hf hn σ) (recN hn) wt wn tmS cdS (wdS σ) sy gp (ddS σ) i0 i1 i2 i3 fo de) := MX_dd hD
            exact ih39 (i + 1) (by omega) (by omega) H locs hP hD hS ls (lv_sub hl [0, 1, 2] rfl)
      have e9 : (va_up σ 2 b9) = (genI σ wt b9 0) := genI_0 σ wt b9
      rw [e9] at hP
      clear e9
      have hP : va_P D vwCl (MX Y A (genI σ wt b9 0) (recF hf hn σ) (recN hn) wt wn tmS cdS (wdS σ) sy gp (ddS σ) i0 i1 i2 i3 fo de) H := hP
      have hD : va_D FA (MX Y A (genI σ wt b9 0) (recF hf hn σ) (recN hn) wt wn tmS cdS (wdS σ) sy gp (ddS σ) i0 i1 i2 i3 fo de) := MX_dd hD
      exact L39 (4 - 0 + 1) 0 (by omega) (Nat.lt_succ_self _) _ _ hP hD hS ls (lv_sub hl [0, 1, 2] rfl)
    · exact absurd ⟨hw4, hok⟩ c19
  · exact absurd c7 (by omega)
theorem qX6_undo_Cond_fieldLink_RX6_71_NestedCodesModel_states_I_ : Cond.fieldLink RX6 71 "NestedCodesModel" "states" "I" ∈ wsX6_undo := by decide +kernel
theorem qX6_undo_inX6 : ∀ w ∈ wsX60, w ∈ wsX6_undo := by decide +kernel
set_option maxHeartbeats 4000000 in
set_option maxRecDepth 100000 in
theorem c_X6_undo_not (l : Launch) (D : va_G) (Y : Nat → ClassId) (A : Nat → Nat) (σ : Nat → Nat) (hf : Nat → Nat) (hn : Nat) (wt : Nat → Nat) (wn : Nat) (sy : Nat → Nat) (gp : Nat → Nat) (i0 : Nat → Nat) (i1 : Nat → Nat) (i2 : Nat → Nat) (i3 : Nat → Nat) (fo : Int32) (de : Int32)   (kσ : zWF σ) (ksy : ∀ w9, w9 < 2 ^ (σ 2) → sy w9 = syS σ w9) (kgp : ∀ w9, w9 < 2 ^ (σ 2) → gp w9 = gpS σ w9) (hn0 : hn = 0) : Met l yX6_undo wsX6_undo ({ frames := 2, cells := 0, slots := 0, locals := 45 } : Room) (va_Pc [.ref (A 0)] (zB D Y (MX Y A σ hf hn wt wn tmS cdS (wdS σ) sy gp (ddS σ) i0 i1 i2 i3 fo de))) (zR (.int (-1002))) 0 0 (fun _ => False) := by
  refine zr_of (cc := cX6_undo) (maxL := 2) (ret := (some .int)) (by decide) rfl (Nat.le_of_ble_eq_true rfl) ?_
  intro p e s m below meth c R args Q hR hx hb hml hr hlk hown hts hK hN hP hQ ls hl
  have hown : s.vm.findClass RX6 = some m.cls := hown
  have hl : lv_has ls 2 [(0, .ref (A 0))] := hl
  have kw := kσ
  obtain ⟨n3, n12, d1, d3, dn, b4, b10, gl, lm, sn, wl, wnz⟩ := kw
  have pb := zp_b b10
  have pk9 := zp_k d3
  refine lv_aload_n hx hb dX6_undo_0 rfl (lv_at hl 0 rfl) ?_
  refine va_get (D := D) (ci := 6) (v := .int (nI hn)) (C := RX6) (T := TX6) (N := 17) hx hb hts qX6_undo_inX6 hown hK hP 0 rfl rfl 2 (by decide) (hts _ qX6_undo_Cond_fieldLink_RX6_71_NestedCodesModel_states_I_) (fun _ h9 => h9) rfl dX6_undo_1 ?_
  refine zn_if_ne (tgt := 11)  hx hb dX6_undo_4 (by decide) (by omega) (fun c4 => ?_) (fun c4 => ?_)
  · exact absurd c4 (by omega)
  · refine lv_sipush (v := (-1002)) hx hb dX6_undo_7 (by decide) ?_
    exact zr_i hx hb hr hlk hQ dX6_undo_10 (rfl)
theorem qX6_undo_Cond_fieldLink_RX6_7_NestedCodesModel_d_I_ : Cond.fieldLink RX6 7 "NestedCodesModel" "d" "[I" ∈ wsX6_undo := by decide +kernel
theorem qX6_undo_Cond_fieldLink_RX6_13_NestedCodesModel_was_I_ : Cond.fieldLink RX6 13 "NestedCodesModel" "was" "[I" ∈ wsX6_undo := by decide +kernel
set_option maxHeartbeats 4000000 in
set_option maxRecDepth 100000 in
theorem c_X6_undo (l : Launch) (D : va_G) (Y : Nat → ClassId) (A : Nat → Nat) (σ : Nat → Nat) (hf : Nat → Nat) (hn : Nat) (wt : Nat → Nat) (wn : Nat) (sy : Nat → Nat) (gp : Nat → Nat) (i0 : Nat → Nat) (i1 : Nat → Nat) (i2 : Nat → Nat) (i3 : Nat → Nat) (fo : Int32) (de : Int32)  (τ : Nat → Nat) (kσ : zWF σ) (ksy : ∀ w9, w9 < 2 ^ (σ 2) → sy w9 = syS σ w9) (kgp : ∀ w9, w9 < 2 ^ (σ 2) → gp w9 = gpS σ w9) (khn : hn ≤ 6) (hn0 : 0 < hn) (hτ : ∀ j, j < 21 → hf (21 * (hn - 1) + j) = τ j) (kτ : zWF τ) : Met l yX6_undo wsX6_undo ({ frames := 2, cells := 0, slots := 0, locals := 45 } : Room) (va_Pc [.ref (A 0)] (zBw D Y (MX Y A σ hf hn wt wn tmS cdS (wdS σ) sy gp (ddS σ) i0 i1 i2 i3 fo de))) (zW (some (.int (nI (hn - 1)))) D (MX Y A τ hf (hn - 1) wt wn tmS cdS (wdS τ) (zmx (2 ^ (τ 2)) (syS τ) sy) (zmx (2 ^ (τ 2)) (gpS τ) gp) (ddS τ) i0 i1 i2 i3 fo de) (zA (MX Y A σ hf hn wt wn tmS cdS (wdS σ) sy gp (ddS σ) i0 i1 i2 i3 fo de))) 0 0 (zA (MX Y A σ hf hn wt wn tmS cdS (wdS σ) sy gp (ddS σ) i0 i1 i2 i3 fo de)) := by
  refine zw_of (cc := cX6_undo) (maxL := 2) (ret := (some .int)) (by decide) rfl (Nat.le_of_ble_eq_true rfl) ?_
  intro p e s m below meth c R args Q FA hR hx hb hml hr hlk hown hts hK hN hQ hP hD hS ls hl
  have hown : s.vm.findClass RX6 = some m.cls := hown
  have hl : lv_has ls 2 [(0, .ref (A 0))] := hl
  have hS := hS
  have kw := kσ
  obtain ⟨n3, n12, d1, d3, dn, b4, b10, gl, lm, sn, wl, wnz⟩ := kw
  have pb := zp_b b10
  have pk9 := zp_k d3
  suffices hgo : ∀ (H : Heap) (locs : List Loc), va_P D vwCl (MX Y A σ hf hn wt wn tmS cdS (wdS σ) sy gp (ddS σ) i0 i1 i2 i3 fo de) H → va_S FA s.heap H locs → W p l e R s m args below meth c H locs 0 0 Q (F0 m 0 ls []) from hgo _ _ hP hS
  clear hP hS
  intro H locs hP hS
  refine lv_aload_n hx hb dX6_undo_0 rfl (lv_at hl 0 rfl) ?_
  refine va_get (D := D) (ci := 6) (v := .int (nI hn)) (C := RX6) (T := TX6) (N := 17) hx hb hts qX6_undo_inX6 hown hK hP 0 rfl rfl 2 (by decide) (hts _ qX6_undo_Cond_fieldLink_RX6_71_NestedCodesModel_states_I_) (fun _ h9 => h9) rfl dX6_undo_1 ?_
  refine zn_if_ne (tgt := 11)  hx hb dX6_undo_4 (by decide) (by omega) (fun c4 => ?_) (fun c4 => ?_)
  · refine lv_aload_n hx hb dX6_undo_11 rfl (lv_at hl 0 rfl) ?_
    refine lv_dup hx hb dX6_undo_12 rfl ?_
    refine va_get (D := D) (ci := 6) (v := .int (nI hn)) (C := RX6) (T := TX6) (N := 17) hx hb hts qX6_undo_inX6 hown hK hP 0 rfl rfl 2 (by decide) (hts _ qX6_undo_Cond_fieldLink_RX6_71_NestedCodesModel_states_I_) (fun _ h9 => h9) rfl dX6_undo_13 ?_
    refine lv_iconst (v := (nI 1)) hx hb dX6_undo_16 (by decide) ?_
    refine zv_isub hx hb (v := (nI (hn - 1))) dX6_undo_17 (pk_sub (by omega)) ?_
    refine va_put (D := D) (ci := 6) (v := .int (nI (hn - 1))) (ty := .int) (C := RX6) (T := TX6) (N := 17) hx hb hts qX6_undo_inX6 tyX6 tyX6_ok nmX6 hown hK hP hD hS 0 rfl rfl 2 (by decide) (hts _ qX6_undo_Cond_fieldLink_RX6_71_NestedCodesModel_states_I_) (fun _ h9 => h9) rfl (by decide +kernel) rfl rfl (Nat.le_of_ble_eq_true rfl) dX6_undo_18 (fun H locs hP hD9 hS => ?_)
    rw [MX_f_hn] at hP
    have hP : va_P D vwCl (MX Y A σ hf (hn - 1) wt wn tmS cdS (wdS σ) sy gp (ddS σ) i0 i1 i2 i3 fo de) H := hP
    have hD : va_D FA (MX Y A σ hf (hn - 1) wt wn tmS cdS (wdS σ) sy gp (ddS σ) i0 i1 i2 i3 fo de) := MX_dd hD
    clear hD9
    refine lv_iconst (v := (nI 0)) hx hb dX6_undo_21 (by decide) ?_
    refine lv_istore_n (lv' := [(1, .int (nI 0)), (0, .ref (A 0))]) hx hb dX6_undo_22 rfl hl (by decide) rfl (fun ls hl => ?_)
    have L23 : ∀ (n9 : Nat) (i : Nat) (hi : i ≤ 21), 21 - i < n9 → ∀ (H : Heap) (locs : List Loc), va_P D vwCl (MX Y A (zmx i (fun k9 => hf (21 * (hn - 1) + k9)) σ) hf (hn - 1) wt wn tmS cdS (wdS σ) sy gp (ddS σ) i0 i1 i2 i3 fo de) H → va_D FA (MX Y A (zmx i (fun k9 => hf (21 * (hn - 1) + k9)) σ) hf (hn - 1) wt wn tmS cdS (wdS σ) sy gp (ddS σ) i0 i1 i2 i3 fo de) → va_S FA s.heap H locs → ∀ ls : Array Slot, lv_has ls 2 [(1, .int (nI i)), (0, .ref (A 0))] → W p l e R s m args below meth c H locs 0 0 Q (F0 m 23 ls []) := by
      intro n9
      induction n9 with
      | zero => intro i hi hn9; exact absurd hn9 (Nat.not_lt_zero _)
      | succ n9 ih9 =>
        have ih23 := ih9
        clear ih9
        intro i hi hn9 H locs hP hD hS ls hl
        refine lv_iload_n hx hb dX6_undo_23 rfl (lv_at hl 0 rfl) ?_
        refine lv_bipush (v := (nI 21)) hx hb dX6_undo_24 (by decide) ?_
        refine zn_icmp_ge (tgt := 55)  hx hb dX6_undo_26 (by decide) (by omega) (by omega) (fun c26 => ?_) (fun c26 => ?_)
        · obtain rfl : i = 21 := by omega
          have hP := zP_arrI 1 (fun j => nI (τ j)) hP rfl (fun j hj => congrArg nI ((zmx_in _ _ hj).trans (hτ j hj)))
          rw [MX_s1] at hP
          have hP : va_P D vwCl (MX Y A τ hf (hn - 1) wt wn tmS cdS (wdS σ) sy gp (ddS σ) i0 i1 i2 i3 fo de) H := hP
          have hD : va_D FA (MX Y A τ hf (hn - 1) wt wn tmS cdS (wdS σ) sy gp (ddS σ) i0 i1 i2 i3 fo de) := MX_dd hD
          refine lv_aload_n hx hb dX6_undo_55 rfl (lv_at hl 1 rfl) ?_
          refine zc_w (va_runV (As := []) (rest := []) ⟨hx, hb, hml, hown, hts⟩ (c_X6_prepares l D Y A τ hf (hn - 1) wt wn tmS cdS (wdS σ) sy gp (ddS σ) i0 i1 i2 i3 fo de  kτ) (cwV 0 hts gX6_undo_X6_prepares rfl rfl rfl (by decide +kernel) (by rw [hR]; exact ⟨Nat.le_of_ble_eq_true rfl, Nat.le_of_ble_eq_true rfl⟩)) ⟨zBw_blind, va_recv hK hP (ci := 6) (q0 := 0) rfl rfl, zp_w hP hD hK hN⟩ rfl rfl hl.1 rfl (lv_room (Nat.le_of_ble_eq_true rfl)) dX6_undo_56 ⟨Nat.zero_le _, Nat.zero_le _⟩).run hS (zA_of hD) (fun H locs hP hz hk hS => ?_)
          have hD : va_D FA (MX Y A τ hf (hn - 1) wt wn tmS cdS (wdS τ) (zmx (2 ^ (τ 2)) (syS τ) sy) (zmx (2 ^ (τ 2)) (gpS τ) gp) (ddS τ) i0 i1 i2 i3 fo de) := MX_dd hD
          refine lv_aload_n hx hb dX6_undo_59 rfl (lv_at hl 1 rfl) ?_
          refine va_get (D := D) (ci := 6) (v := .int (nI (hn - 1))) (C := RX6) (T := TX6) (N := 17) hx hb hts qX6_undo_inX6 hown hK hP 0 rfl rfl 2 (by decide) (hts _ qX6_undo_Cond_fieldLink_RX6_71_NestedCodesModel_states_I_) (fun _ h9 => h9) rfl dX6_undo_60 ?_
          exact zw_i hx hb hr hlk hQ hS dX6_undo_63 (rfl) (hP)
        · refine lv_aload_n hx hb dX6_undo_29 rfl (lv_at hl 1 rfl) ?_
          refine va_get (D := D) (ci := 6) (v := .ref (A 1)) (C := RX6) (T := TX6) (N := 17) hx hb hts qX6_undo_inX6 hown hK hP 0 rfl rfl 0 (by decide) (hts _ qX6_undo_Cond_fieldLink_RX6_7_NestedCodesModel_d_I_) (fun _ h9 => h9) rfl dX6_undo_30 ?_
          refine lv_iload_n hx hb dX6_undo_33 rfl (lv_at hl 0 rfl) ?_
          refine lv_aload_n hx hb dX6_undo_34 rfl (lv_at hl 1 rfl) ?_
          refine va_get (D := D) (ci := 6) (v := .ref (A 2)) (C := RX6) (T := TX6) (N := 17) hx hb hts qX6_undo_inX6 hown hK hP 0 rfl rfl 1 (by decide) (hts _ qX6_undo_Cond_fieldLink_RX6_13_NestedCodesModel_was_I_) (fun _ h9 => h9) rfl dX6_undo_35 ?_
          refine lv_bipush (v := (nI 21)) hx hb dX6_undo_38 (by decide) ?_
          refine lv_aload_n hx hb dX6_undo_40 rfl (lv_at hl 1 rfl) ?_
          refine va_get (D := D) (ci := 6) (v := .int (nI (hn - 1))) (C := RX6) (T := TX6) (N := 17) hx hb hts qX6_undo_inX6 hown hK hP 0 rfl rfl 2 (by decide) (hts _ qX6_undo_Cond_fieldLink_RX6_71_NestedCodesModel_states_I_) (fun _ h9 => h9) rfl dX6_undo_41 ?_
          refine zv_imul hx hb (v := (nI (21 * (hn - 1)))) dX6_undo_44 (pk_mul _ _) ?_
          refine lv_iload_n hx hb dX6_undo_45 rfl (lv_at hl 0 rfl) ?_
          refine zv_iadd hx hb (v := (nI ((21 * (hn - 1)) + i))) dX6_undo_46 (nI_add _ _) ?_
          refine za_i hx hb hK hP 2 (f := fun k9 => nI (hf k9)) (v := (nI (hf ((21 * (hn - 1)) + i)))) rfl (by omega) (by decide) dX6_undo_47 (rfl) ?_
          refine zs_i hx hb hK hP hD hS 1 (f := fun k9 => nI ((zmx i (fun k9 => hf (21 * (hn - 1) + k9)) σ) k9)) rfl (by omega) (by decide) dX6_undo_48 (fun H locs hP hD9 hS => ?_)
          rw [zupd] at hP
          rw [MX_s1] at hP
          have hP : va_P D vwCl (MX Y A (va_up (zmx i (fun k9 => hf (21 * (hn - 1) + k9)) σ) i (hf ((21 * (hn - 1)) + i))) hf (hn - 1) wt wn tmS cdS (wdS σ) sy gp (ddS σ) i0 i1 i2 i3 fo de) H := hP
          have hD : va_D FA (MX Y A (va_up (zmx i (fun k9 => hf (21 * (hn - 1) + k9)) σ) i (hf ((21 * (hn - 1)) + i))) hf (hn - 1) wt wn tmS cdS (wdS σ) sy gp (ddS σ) i0 i1 i2 i3 fo de) := MX_dd hD
          clear hD9
          refine lv_iinc (v := (nI (i + 1))) (lv' := [(1, .int (nI (i + 1))), (0, .ref (A 0))]) hx hb dX6_undo_49 hl (k := 0) rfl (zinc _) (by decide) rfl (fun ls hl => ?_)
          refine lv_goto (tgt := 23) hx hb dX6_undo_52 (by decide) ?_
          have e9 : (va_up (zmx i (fun k9 => hf (21 * (hn - 1) + k9)) σ) i (hf ((21 * (hn - 1)) + i))) = (zmx (i + 1) (fun k9 => hf (21 * (hn - 1) + k9)) σ) := zmx_up i (fun k9 => hf (21 * (hn - 1) + k9)) σ
          rw [e9] at hP
          clear e9
          have hP : va_P D vwCl (MX Y A (zmx (i + 1) (fun k9 => hf (21 * (hn - 1) + k9)) σ) hf (hn - 1) wt wn tmS cdS (wdS σ) sy gp (ddS σ) i0 i1 i2 i3 fo de) H := hP
          have hD : va_D FA (MX Y A (zmx (i + 1) (fun k9 => hf (21 * (hn - 1) + k9)) σ) hf (hn - 1) wt wn tmS cdS (wdS σ) sy gp (ddS σ) i0 i1 i2 i3 fo de) := MX_dd hD
          exact ih23 (i + 1) (by omega) (by omega) H locs hP hD hS ls (lv_sub hl [0, 1] rfl)
    have hP : va_P D vwCl (MX Y A (zmx 0 (fun k9 => hf (21 * (hn - 1) + k9)) σ) hf (hn - 1) wt wn tmS cdS (wdS σ) sy gp (ddS σ) i0 i1 i2 i3 fo de) H := by rw [← zmx_0 (fun k9 => hf (21 * (hn - 1) + k9)) σ]; exact hP
    have hP : va_P D vwCl (MX Y A (zmx 0 (fun k9 => hf (21 * (hn - 1) + k9)) σ) hf (hn - 1) wt wn tmS cdS (wdS σ) sy gp (ddS σ) i0 i1 i2 i3 fo de) H := hP
    have hD : va_D FA (MX Y A (zmx 0 (fun k9 => hf (21 * (hn - 1) + k9)) σ) hf (hn - 1) wt wn tmS cdS (wdS σ) sy gp (ddS σ) i0 i1 i2 i3 fo de) := MX_dd hD
    exact L23 (21 - 0 + 1) 0 (by omega) (Nat.lt_succ_self _) _ _ hP hD hS ls (lv_sub hl [0, 1] rfl)
  · exact absurd c4 (by omega)
theorem qX6_wrongBits_Cond_fieldLink_RX6_7_NestedCodesModel_d_I_ : Cond.fieldLink RX6 7 "NestedCodesModel" "d" "[I" ∈ wsX6_wrongBits := by decide +kernel
theorem qX6_wrongBits_inX6 : ∀ w ∈ wsX60, w ∈ wsX6_wrongBits := by decide +kernel
theorem qX6_wrongBits_Cond_fieldLink_RX6_27_NestedCodesModel_word_I_ : Cond.fieldLink RX6 27 "NestedCodesModel" "word" "[I" ∈ wsX6_wrongBits := by decide +kernel
theorem qX6_wrongBits_Cond_fieldLink_RX6_23_NestedCodesModel_code_B_ : Cond.fieldLink RX6 23 "NestedCodesModel" "code" "[B" ∈ wsX6_wrongBits := by decide +kernel
set_option maxHeartbeats 4000000 in
set_option maxRecDepth 100000 in
theorem c_X6_wrongBits (l : Launch) (D : va_G) (Y : Nat → ClassId) (A : Nat → Nat) (σ : Nat → Nat) (hf : Nat → Nat) (hn : Nat) (wt : Nat → Nat) (wn : Nat) (sy : Nat → Nat) (gp : Nat → Nat) (i0 : Nat → Nat) (i1 : Nat → Nat) (i2 : Nat → Nat) (i3 : Nat → Nat) (fo : Int32) (de : Int32)   (kσ : zWF σ) : Met l yX6_wrongBits wsX6_wrongBits ({ frames := 1, cells := 0, slots := 0, locals := 22 } : Room) (va_Pc [.ref (A 0)] (zB D Y (MX Y A σ hf hn wt wn tmS cdS (wdS σ) sy gp (ddS σ) i0 i1 i2 i3 fo de))) (zR (.int (nI (wrN (wdS σ) σ (σ 0))))) 0 0 (fun _ => False) := by
  refine zr_of (cc := cX6_wrongBits) (maxL := 3) (ret := (some .int)) (by decide) rfl (Nat.le_of_ble_eq_true rfl) ?_
  intro p e s m below meth c R args Q hR hx hb hml hr hlk hown hts hK hN hP hQ ls hl
  have hown : s.vm.findClass RX6 = some m.cls := hown
  have hl : lv_has ls 3 [(0, .ref (A 0))] := hl
  have kw := kσ
  obtain ⟨n3, n12, d1, d3, dn, b4, b10, gl, lm, sn, wl, wnz⟩ := kw
  have pb := zp_b b10
  have pk9 := zp_k d3
  refine lv_iconst (v := (nI 0)) hx hb dX6_wrongBits_0 (by decide) ?_
  refine lv_istore_n (lv' := [(1, .int (nI 0)), (0, .ref (A 0))]) hx hb dX6_wrongBits_1 rfl hl (by decide) rfl (fun ls hl => ?_)
  refine lv_iconst (v := (nI 0)) hx hb dX6_wrongBits_2 (by decide) ?_
  refine lv_istore_n (lv' := [(2, .int (nI 0)), (1, .int (nI 0)), (0, .ref (A 0))]) hx hb dX6_wrongBits_3 rfl hl (by decide) rfl (fun ls hl => ?_)
  have L4 : ∀ (n9 : Nat) (i : Nat) (hi : i ≤ σ 0), σ 0 - i < n9 → ∀ ls : Array Slot, lv_has ls 3 [(2, .int (nI i)), (1, .int (nI (wrN (wdS σ) σ i))), (0, .ref (A 0))] → W p l e R s m args below meth c s.heap [] 0 0 Q (F0 m 4 ls []) := by
    intro n9
    induction n9 with
    | zero => intro i hi hn9; exact absurd hn9 (Nat.not_lt_zero _)
    | succ n9 ih9 =>
      have ih4 := ih9
      clear ih9
      intro i hi hn9 ls hl
      have hln := wrN_le (wdS σ) σ i
      refine lv_iload_n hx hb dX6_wrongBits_4 rfl (lv_at hl 0 rfl) ?_
      refine lv_aload_n hx hb dX6_wrongBits_5 rfl (lv_at hl 2 rfl) ?_
      refine va_get (D := D) (ci := 6) (v := .ref (A 1)) (C := RX6) (T := TX6) (N := 17) hx hb hts qX6_wrongBits_inX6 hown hK hP 0 rfl rfl 0 (by decide) (hts _ qX6_wrongBits_Cond_fieldLink_RX6_7_NestedCodesModel_d_I_) (fun _ h9 => h9) rfl dX6_wrongBits_6 ?_
      refine lv_iconst (v := (nI 0)) hx hb dX6_wrongBits_9 (by decide) ?_
      refine za_i hx hb hK hP 1 (f := fun k9 => nI (σ k9)) (v := (nI (σ 0))) rfl (by omega) (by decide) dX6_wrongBits_10 (rfl) ?_
      refine zn_icmp_ge (tgt := 70)  hx hb dX6_wrongBits_11 (by decide) (by omega) (by omega) (fun c11 => ?_) (fun c11 => ?_)
      · obtain rfl : i = σ 0 := by omega
        refine lv_iload_n hx hb dX6_wrongBits_70 rfl (lv_at hl 1 rfl) ?_
        exact zr_i hx hb hr hlk hQ dX6_wrongBits_71 (rfl)
      · refine lv_iload_n hx hb dX6_wrongBits_14 rfl (lv_at hl 1 rfl) ?_
        refine lv_aload_n hx hb dX6_wrongBits_15 rfl (lv_at hl 2 rfl) ?_
        refine lv_iload_n hx hb dX6_wrongBits_16 rfl (lv_at hl 0 rfl) ?_
        refine zc_r (va_runV (As := [.int (nI i)]) (rest := [.int (nI (wrN (wdS σ) σ i))]) ⟨hx, hb, hml, hown, hts⟩ (c_X6_isLost l D Y A σ hf hn wt wn tmS cdS (wdS σ) sy gp (ddS σ) i0 i1 i2 i3 fo de i lm (by omega)) (cwV 1 hts gX6_wrongBits_X6_isLost rfl rfl rfl (by decide +kernel) (by rw [hR]; exact ⟨Nat.le_of_ble_eq_true rfl, Nat.le_of_ble_eq_true rfl⟩)) ⟨zB_blind, va_recv hK hP (ci := 6) (q0 := 0) rfl rfl, zp_r hP hK hN⟩ rfl rfl hl.1 rfl (lv_room (Nat.le_of_ble_eq_true rfl)) dX6_wrongBits_17 ⟨Nat.zero_le _, Nat.zero_le _⟩).run ?_
        have J62 : W p l e R s m args below meth c s.heap [] 0 0 Q (F0 m 62 ls [.int (nI ((if zL (σ 7) i = 1 then 0 else popc (σ (9 + i) ^^^ wdS σ (zcw (σ 8) i))))), .int (nI (wrN (wdS σ) σ i))]) := by
          refine zv_iadd hx hb (v := (nI ((wrN (wdS σ) σ i) + (if zL (σ 7) i = 1 then 0 else popc (σ (9 + i) ^^^ wdS σ (zcw (σ 8) i)))))) dX6_wrongBits_62 (nI_add _ _) ?_
          refine lv_istore_n (lv' := [(1, .int (nI ((wrN (wdS σ) σ i) + (if zL (σ 7) i = 1 then 0 else popc (σ (9 + i) ^^^ wdS σ (zcw (σ 8) i)))))), (2, .int (nI i)), (0, .ref (A 0))]) hx hb dX6_wrongBits_63 rfl hl (by decide) rfl (fun ls hl => ?_)
          refine lv_iinc (v := (nI (i + 1))) (lv' := [(2, .int (nI (i + 1))), (1, .int (nI ((wrN (wdS σ) σ i) + (if zL (σ 7) i = 1 then 0 else popc (σ (9 + i) ^^^ wdS σ (zcw (σ 8) i)))))), (0, .ref (A 0))]) hx hb dX6_wrongBits_64 hl (k := 1) rfl (zinc _) (by decide) rfl (fun ls hl => ?_)
          refine lv_goto (tgt := 4) hx hb dX6_wrongBits_67 (by decide) ?_
          exact ih4 (i + 1) (by omega) (by omega) ls (lv_sub hl [0, 1, 2] rfl)
        refine zb_if_eq (tgt := 27)  hx hb dX6_wrongBits_20 (by decide)  (fun c20 => ?_) (fun c20 => ?_)
        · refine lv_aload_n hx hb dX6_wrongBits_27 rfl (lv_at hl 2 rfl) ?_
          refine va_get (D := D) (ci := 6) (v := .ref (A 1)) (C := RX6) (T := TX6) (N := 17) hx hb hts qX6_wrongBits_inX6 hown hK hP 0 rfl rfl 0 (by decide) (hts _ qX6_wrongBits_Cond_fieldLink_RX6_7_NestedCodesModel_d_I_) (fun _ h9 => h9) rfl dX6_wrongBits_28 ?_
          refine lv_bipush (v := (nI 9)) hx hb dX6_wrongBits_31 (by decide) ?_
          refine lv_iload_n hx hb dX6_wrongBits_33 rfl (lv_at hl 0 rfl) ?_
          refine zv_iadd hx hb (v := (nI (9 + i))) dX6_wrongBits_34 (nI_add _ _) ?_
          refine za_i hx hb hK hP 1 (f := fun k9 => nI (σ k9)) (v := (nI (σ (9 + i)))) rfl (by omega) (by decide) dX6_wrongBits_35 (rfl) ?_
          refine lv_aload_n hx hb dX6_wrongBits_36 rfl (lv_at hl 2 rfl) ?_
          refine va_get (D := D) (ci := 6) (v := .ref (A 6)) (C := RX6) (T := TX6) (N := 17) hx hb hts qX6_wrongBits_inX6 hown hK hP 0 rfl rfl 7 (by decide) (hts _ qX6_wrongBits_Cond_fieldLink_RX6_27_NestedCodesModel_word_I_) (fun _ h9 => h9) rfl dX6_wrongBits_37 ?_
          refine lv_aload_n hx hb dX6_wrongBits_40 rfl (lv_at hl 2 rfl) ?_
          refine va_get (D := D) (ci := 6) (v := .ref (A 5)) (C := RX6) (T := TX6) (N := 17) hx hb hts qX6_wrongBits_inX6 hown hK hP 0 rfl rfl 6 (by decide) (hts _ qX6_wrongBits_Cond_fieldLink_RX6_23_NestedCodesModel_code_B_) (fun _ h9 => h9) rfl dX6_wrongBits_41 ?_
          refine lv_bipush (v := (nI 12)) hx hb dX6_wrongBits_44 (by decide) ?_
          refine lv_aload_n hx hb dX6_wrongBits_46 rfl (lv_at hl 2 rfl) ?_
          refine va_get (D := D) (ci := 6) (v := .ref (A 1)) (C := RX6) (T := TX6) (N := 17) hx hb hts qX6_wrongBits_inX6 hown hK hP 0 rfl rfl 0 (by decide) (hts _ qX6_wrongBits_Cond_fieldLink_RX6_7_NestedCodesModel_d_I_) (fun _ h9 => h9) rfl dX6_wrongBits_47 ?_
          refine lv_bipush (v := (nI 8)) hx hb dX6_wrongBits_50 (by decide) ?_
          refine za_i hx hb hK hP 1 (f := fun k9 => nI (σ k9)) (v := (nI (σ 8))) rfl (by omega) (by decide) dX6_wrongBits_52 (rfl) ?_
          refine zv_imul hx hb (v := (nI (12 * (σ 8)))) dX6_wrongBits_53 (pk_mul _ _) ?_
          refine lv_iload_n hx hb dX6_wrongBits_54 rfl (lv_at hl 0 rfl) ?_
          refine zv_iadd hx hb (v := (nI ((12 * (σ 8)) + i))) dX6_wrongBits_55 (nI_add _ _) ?_
          refine za_b hx hb hK hP 5 (f := fun k9 => nI (cdS k9)) (v := (nI (zcw (σ 8) i))) rfl (by omega) (by decide) dX6_wrongBits_56 (congrArg nI (cdS_at (σ 8) (by omega))) ?_
          refine za_i hx hb hK hP 6 (f := fun k9 => nI ((wdS σ) k9)) (v := (nI ((wdS σ) (zcw (σ 8) i)))) rfl (zcw_lt (by omega) (by omega)) (by decide) dX6_wrongBits_57 (rfl) ?_
          refine zv_ixor hx hb (v := (nI ((σ (9 + i)) ^^^ ((wdS σ) (zcw (σ 8) i))))) dX6_wrongBits_58 (nx_xor _ _) ?_
          refine zc_r (va_runS (As := [.int (nI ((σ (9 + i)) ^^^ ((wdS σ) (zcw (σ 8) i))))]) (rest := [.int (nI (wrN (wdS σ) σ i))]) ⟨hx, hb, hml, hown, hts⟩ (c_X6_ones l D Y  ((σ (9 + i)) ^^^ ((wdS σ) (zcw (σ 8) i))) (Nat.lt_trans (xor_1024 (zw_1024 kσ (by omega)) (zwd_1024 kσ _)) (by decide))) (va_cwS 1 hts gX6_wrongBits_X6_ones rfl rfl rfl (by decide +kernel) (by rw [hR]; exact ⟨Nat.le_of_ble_eq_true rfl, Nat.le_of_ble_eq_true rfl⟩)) ⟨zB_blind, (zp_r (v := [.int (nI ((σ (9 + i)) ^^^ ((wdS σ) (zcw (σ 8) i))))]) (fun k q h => absurd h (by simp)) hK hN)⟩ rfl rfl hl.1 rfl (lv_room (Nat.le_of_ble_eq_true rfl)) dX6_wrongBits_59 ⟨Nat.zero_le _, Nat.zero_le _⟩).run ?_
          have hp59 := popc_le ((σ (9 + i)) ^^^ ((wdS σ) (zcw (σ 8) i)))
          refine zt_i (v := (nI ((if zL (σ 7) i = 1 then 0 else popc (σ (9 + i) ^^^ wdS σ (zcw (σ 8) i)))))) (congrArg nI (by first | rw [if_pos (by omega)] | rw [if_neg (by omega)])) ?_
          exact J62
        · refine lv_iconst (v := (nI 0)) hx hb dX6_wrongBits_23 (by decide) ?_
          refine lv_goto (tgt := 62) hx hb dX6_wrongBits_24 (by decide) ?_
          refine zt_i (v := (nI ((if zL (σ 7) i = 1 then 0 else popc (σ (9 + i) ^^^ wdS σ (zcw (σ 8) i)))))) (congrArg nI (by first | rw [if_pos (by omega)] | rw [if_neg (by omega)])) ?_
          exact J62
  exact L4 (σ 0 - 0 + 1) 0 (by omega) (Nat.lt_succ_self _) ls (lv_sub hl [0, 1, 2] rfl)
theorem qX6_count_Cond_fieldLink_RX6_7_NestedCodesModel_d_I_ : Cond.fieldLink RX6 7 "NestedCodesModel" "d" "[I" ∈ wsX6_count := by decide +kernel
theorem qX6_count_inX6 : ∀ w ∈ wsX60, w ∈ wsX6_count := by decide +kernel
theorem qX6_count_Cond_fieldLink_RX6_55_NestedCodesModel_least_I_ : Cond.fieldLink RX6 55 "NestedCodesModel" "least" "I" ∈ wsX6_count := by decide +kernel
theorem qX6_count_Cond_fieldLink_RX6_80_NestedCodesModel_waits_I_ : Cond.fieldLink RX6 80 "NestedCodesModel" "waits" "I" ∈ wsX6_count := by decide +kernel
theorem qX6_count_Cond_fieldLink_RX6_71_NestedCodesModel_states_I_ : Cond.fieldLink RX6 71 "NestedCodesModel" "states" "I" ∈ wsX6_count := by decide +kernel
set_option maxHeartbeats 4000000 in
set_option maxRecDepth 100000 in
theorem c_X6_count (l : Launch) (D : va_G) (Y : Nat → ClassId) (A : Nat → Nat) (σ : Nat → Nat) (hf : Nat → Nat) (hn : Nat) (wt : Nat → Nat) (wn : Nat) (sy : Nat → Nat) (gp : Nat → Nat) (i0 : Nat → Nat) (i1 : Nat → Nat) (i2 : Nat → Nat) (i3 : Nat → Nat) (fo : Int32) (de : Int32) (x : Int32)  (kσ : zWF σ) (ksy : ∀ w9, w9 < 2 ^ (σ 2) → sy w9 = syS σ w9) (kgp : ∀ w9, w9 < 2 ^ (σ 2) → gp w9 = gpS σ w9) (kM : σ 7 < 2 ^ σ 0) : Met l yX6_count wsX6_count ({ frames := 2, cells := 0, slots := 0, locals := 44 } : Room) (va_Pc [.ref (A 0), .int (x)] (zB D Y (MX Y A σ hf hn wt wn tmS cdS (wdS σ) sy gp (ddS σ) i0 i1 i2 i3 fo de))) (zR (.int (countV σ wn hn (x).toInt))) 0 0 (fun _ => False) := by
  refine zr_of (cc := cX6_count) (maxL := 2) (ret := (some .int)) (by decide) rfl (Nat.le_of_ble_eq_true rfl) ?_
  intro p e s m below meth c R args Q hR hx hb hml hr hlk hown hts hK hN hP hQ ls hl
  have hown : s.vm.findClass RX6 = some m.cls := hown
  have hl : lv_has ls 2 [(0, .ref (A 0)), (1, .int (x))] := hl
  have kw := kσ
  obtain ⟨n3, n12, d1, d3, dn, b4, b10, gl, lm, sn, wl, wnz⟩ := kw
  have pb := zp_b b10
  have pk9 := zp_k d3
  refine lv_iload_n hx hb dX6_count_0 rfl (lv_at hl 1 rfl) ?_
  have hsw1 : (x).toInt < 0 ∨ (x).toInt = 0 ∨ (x).toInt = 1 ∨ (x).toInt = 2 ∨ (x).toInt = 3 ∨ (x).toInt = 4 ∨ (x).toInt = 5 ∨ (x).toInt = 6 ∨ (x).toInt = 7 ∨ (x).toInt = 8 ∨ 8 < (x).toInt := by omega
  rcases hsw1 with c1 | c1 | c1 | c1 | c1 | c1 | c1 | c1 | c1 | c1 | c1
  · refine lv_tableOut (tgt := 109) hx hb dX6_count_1 (by omega) (by decide) ?_
    refine lv_sipush (v := (-1001)) hx hb dX6_count_109 (by decide) ?_
    exact zr_i hx hb hr hlk hQ dX6_count_112 (by unfold countV; rw [if_neg (by omega), if_neg (by omega), if_neg (by omega), if_neg (by omega), if_neg (by omega), if_neg (by omega), if_neg (by omega), if_neg (by omega), if_neg (by omega)])
  · refine lv_tableIn (off := 51) (tgt := 52) hx hb dX6_count_1 (by omega) (by omega) (by rw [c1]; rfl) (by decide) ?_
    refine lv_aload_n hx hb dX6_count_52 rfl (lv_at hl 0 rfl) ?_
    refine va_get (D := D) (ci := 6) (v := .ref (A 1)) (C := RX6) (T := TX6) (N := 17) hx hb hts qX6_count_inX6 hown hK hP 0 rfl rfl 0 (by decide) (hts _ qX6_count_Cond_fieldLink_RX6_7_NestedCodesModel_d_I_) (fun _ h9 => h9) rfl dX6_count_53 ?_
    refine lv_iconst (v := (nI 0)) hx hb dX6_count_56 (by decide) ?_
    refine za_i hx hb hK hP 1 (f := fun k9 => nI (σ k9)) (v := (nI (σ 0))) rfl (by omega) (by decide) dX6_count_57 (rfl) ?_
    exact zr_i hx hb hr hlk hQ dX6_count_58 (by rw [c1]; rfl)
  · refine lv_tableIn (off := 58) (tgt := 59) hx hb dX6_count_1 (by omega) (by omega) (by rw [c1]; rfl) (by decide) ?_
    refine lv_aload_n hx hb dX6_count_59 rfl (lv_at hl 0 rfl) ?_
    refine va_get (D := D) (ci := 6) (v := .ref (A 1)) (C := RX6) (T := TX6) (N := 17) hx hb hts qX6_count_inX6 hown hK hP 0 rfl rfl 0 (by decide) (hts _ qX6_count_Cond_fieldLink_RX6_7_NestedCodesModel_d_I_) (fun _ h9 => h9) rfl dX6_count_60 ?_
    refine lv_iconst (v := (nI 1)) hx hb dX6_count_63 (by decide) ?_
    refine za_i hx hb hK hP 1 (f := fun k9 => nI (σ k9)) (v := (nI (σ 1))) rfl (by omega) (by decide) dX6_count_64 (rfl) ?_
    exact zr_i hx hb hr hlk hQ dX6_count_65 (by rw [c1]; rfl)
  · refine lv_tableIn (off := 65) (tgt := 66) hx hb dX6_count_1 (by omega) (by omega) (by rw [c1]; rfl) (by decide) ?_
    refine lv_aload_n hx hb dX6_count_66 rfl (lv_at hl 0 rfl) ?_
    refine zc_r (va_runV (As := []) (rest := []) ⟨hx, hb, hml, hown, hts⟩ (c_X6_distance l D Y A σ hf hn wt wn tmS cdS (wdS σ) sy gp (ddS σ) i0 i1 i2 i3 fo de  kσ) (cwV 0 hts gX6_count_X6_distance rfl rfl rfl (by decide +kernel) (by rw [hR]; exact ⟨Nat.le_of_ble_eq_true rfl, Nat.le_of_ble_eq_true rfl⟩)) ⟨zB_blind, va_recv hK hP (ci := 6) (q0 := 0) rfl rfl, zp_r hP hK hN⟩ rfl rfl hl.1 rfl (lv_room (Nat.le_of_ble_eq_true rfl)) dX6_count_67 ⟨Nat.zero_le _, Nat.zero_le _⟩).run ?_
    exact zr_i hx hb hr hlk hQ dX6_count_70 (by rw [c1]; rfl)
  · refine lv_tableIn (off := 70) (tgt := 71) hx hb dX6_count_1 (by omega) (by omega) (by rw [c1]; rfl) (by decide) ?_
    refine lv_aload_n hx hb dX6_count_71 rfl (lv_at hl 0 rfl) ?_
    refine va_get (D := D) (ci := 6) (v := .ref (A 1)) (C := RX6) (T := TX6) (N := 17) hx hb hts qX6_count_inX6 hown hK hP 0 rfl rfl 0 (by decide) (hts _ qX6_count_Cond_fieldLink_RX6_7_NestedCodesModel_d_I_) (fun _ h9 => h9) rfl dX6_count_72 ?_
    refine lv_iconst (v := (nI 2)) hx hb dX6_count_75 (by decide) ?_
    refine za_i hx hb hK hP 1 (f := fun k9 => nI (σ k9)) (v := (nI (σ 2))) rfl (by omega) (by decide) dX6_count_76 (rfl) ?_
    exact zr_i hx hb hr hlk hQ dX6_count_77 (by rw [c1]; rfl)
  · refine lv_tableIn (off := 77) (tgt := 78) hx hb dX6_count_1 (by omega) (by omega) (by rw [c1]; rfl) (by decide) ?_
    refine lv_aload_n hx hb dX6_count_78 rfl (lv_at hl 0 rfl) ?_
    refine va_get (D := D) (ci := 6) (v := .int (nI (ddS σ))) (C := RX6) (T := TX6) (N := 17) hx hb hts qX6_count_inX6 hown hK hP 0 rfl rfl 10 (by decide) (hts _ qX6_count_Cond_fieldLink_RX6_55_NestedCodesModel_least_I_) (fun _ h9 => h9) rfl dX6_count_79 ?_
    exact zr_i hx hb hr hlk hQ dX6_count_82 (by rw [c1]; rfl)
  · refine lv_tableIn (off := 82) (tgt := 83) hx hb dX6_count_1 (by omega) (by omega) (by rw [c1]; rfl) (by decide) ?_
    refine lv_aload_n hx hb dX6_count_83 rfl (lv_at hl 0 rfl) ?_
    refine va_get (D := D) (ci := 6) (v := .int (nI wn)) (C := RX6) (T := TX6) (N := 17) hx hb hts qX6_count_inX6 hown hK hP 0 rfl rfl 4 (by decide) (hts _ qX6_count_Cond_fieldLink_RX6_80_NestedCodesModel_waits_I_) (fun _ h9 => h9) rfl dX6_count_84 ?_
    exact zr_i hx hb hr hlk hQ dX6_count_87 (by rw [c1]; rfl)
  · refine lv_tableIn (off := 87) (tgt := 88) hx hb dX6_count_1 (by omega) (by omega) (by rw [c1]; rfl) (by decide) ?_
    refine lv_aload_n hx hb dX6_count_88 rfl (lv_at hl 0 rfl) ?_
    refine va_get (D := D) (ci := 6) (v := .int (nI hn)) (C := RX6) (T := TX6) (N := 17) hx hb hts qX6_count_inX6 hown hK hP 0 rfl rfl 2 (by decide) (hts _ qX6_count_Cond_fieldLink_RX6_71_NestedCodesModel_states_I_) (fun _ h9 => h9) rfl dX6_count_89 ?_
    exact zr_i hx hb hr hlk hQ dX6_count_92 (by rw [c1]; rfl)
  · refine lv_tableIn (off := 92) (tgt := 93) hx hb dX6_count_1 (by omega) (by omega) (by rw [c1]; rfl) (by decide) ?_
    refine lv_aload_n hx hb dX6_count_93 rfl (lv_at hl 0 rfl) ?_
    refine va_get (D := D) (ci := 6) (v := .ref (A 1)) (C := RX6) (T := TX6) (N := 17) hx hb hts qX6_count_inX6 hown hK hP 0 rfl rfl 0 (by decide) (hts _ qX6_count_Cond_fieldLink_RX6_7_NestedCodesModel_d_I_) (fun _ h9 => h9) rfl dX6_count_94 ?_
    refine lv_bipush (v := (nI 7)) hx hb dX6_count_97 (by decide) ?_
    refine za_i hx hb hK hP 1 (f := fun k9 => nI (σ k9)) (v := (nI (σ 7))) rfl (by omega) (by decide) dX6_count_99 (rfl) ?_
    refine zc_r (va_runS (As := [.int (nI (σ 7))]) (rest := []) ⟨hx, hb, hml, hown, hts⟩ (c_X6_ones l D Y  (σ 7) (by omega)) (va_cwS 1 hts gX6_count_X6_ones rfl rfl rfl (by decide +kernel) (by rw [hR]; exact ⟨Nat.le_of_ble_eq_true rfl, Nat.le_of_ble_eq_true rfl⟩)) ⟨zB_blind, (zp_r (v := [.int (nI (σ 7))]) (fun k q h => absurd h (by simp)) hK hN)⟩ rfl rfl hl.1 rfl (lv_room (Nat.le_of_ble_eq_true rfl)) dX6_count_100 ⟨Nat.zero_le _, Nat.zero_le _⟩).run ?_
    have hp100 := popc_le (σ 7)
    exact zr_i hx hb hr hlk hQ dX6_count_103 (by rw [c1, popc_lost n12 kM]; rfl)
  · refine lv_tableIn (off := 103) (tgt := 104) hx hb dX6_count_1 (by omega) (by omega) (by rw [c1]; rfl) (by decide) ?_
    refine lv_aload_n hx hb dX6_count_104 rfl (lv_at hl 0 rfl) ?_
    refine zc_r (va_runV (As := []) (rest := []) ⟨hx, hb, hml, hown, hts⟩ (c_X6_wrongBits l D Y A σ hf hn wt wn sy gp i0 i1 i2 i3 fo de  kσ) (cwV 0 hts gX6_count_X6_wrongBits rfl rfl rfl (by decide +kernel) (by rw [hR]; exact ⟨Nat.le_of_ble_eq_true rfl, Nat.le_of_ble_eq_true rfl⟩)) ⟨zB_blind, va_recv hK hP (ci := 6) (q0 := 0) rfl rfl, zp_r hP hK hN⟩ rfl rfl hl.1 rfl (lv_room (Nat.le_of_ble_eq_true rfl)) dX6_count_105 ⟨Nat.zero_le _, Nat.zero_le _⟩).run ?_
    have hw105 := wrN_le (wdS σ) σ (σ 0)
    exact zr_i hx hb hr hlk hQ dX6_count_108 (by rw [c1]; rfl)
  · refine lv_tableOut (tgt := 109) hx hb dX6_count_1 (by omega) (by decide) ?_
    refine lv_sipush (v := (-1001)) hx hb dX6_count_109 (by decide) ?_
    exact zr_i hx hb hr hlk hQ dX6_count_112 (by unfold countV; rw [if_neg (by omega), if_neg (by omega), if_neg (by omega), if_neg (by omega), if_neg (by omega), if_neg (by omega), if_neg (by omega), if_neg (by omega), if_neg (by omega)])
theorem qX6_wordOf_Cond_fieldLink_RX6_27_NestedCodesModel_word_I_ : Cond.fieldLink RX6 27 "NestedCodesModel" "word" "[I" ∈ wsX6_wordOf := by decide +kernel
theorem qX6_wordOf_inX6 : ∀ w ∈ wsX60, w ∈ wsX6_wordOf := by decide +kernel
set_option maxHeartbeats 4000000 in
set_option maxRecDepth 100000 in
theorem c_X6_wordOf (l : Launch) (D : va_G) (Y : Nat → ClassId) (A : Nat → Nat) (σ : Nat → Nat) (hf : Nat → Nat) (hn : Nat) (wt : Nat → Nat) (wn : Nat) (sy : Nat → Nat) (gp : Nat → Nat) (i0 : Nat → Nat) (i1 : Nat → Nat) (i2 : Nat → Nat) (i3 : Nat → Nat) (fo : Int32) (de : Int32) (x : Int32)  (kσ : zWF σ) (ksy : ∀ w9, w9 < 2 ^ (σ 2) → sy w9 = syS σ w9) (kgp : ∀ w9, w9 < 2 ^ (σ 2) → gp w9 = gpS σ w9) : Met l yX6_wordOf wsX6_wordOf ({ frames := 1, cells := 0, slots := 0, locals := 22 } : Room) (va_Pc [.ref (A 0), .int (x)] (zB D Y (MX Y A σ hf hn wt wn tmS cdS (wdS σ) sy gp (ddS σ) i0 i1 i2 i3 fo de))) (zR (.int (wordV σ (x).toInt))) 0 0 (fun _ => False) := by
  refine zr_of (cc := cX6_wordOf) (maxL := 2) (ret := (some .int)) (by decide) rfl (Nat.le_of_ble_eq_true rfl) ?_
  intro p e s m below meth c R args Q hR hx hb hml hr hlk hown hts hK hN hP hQ ls hl
  have hown : s.vm.findClass RX6 = some m.cls := hown
  have hl : lv_has ls 2 [(0, .ref (A 0)), (1, .int (x))] := hl
  have kw := kσ
  obtain ⟨n3, n12, d1, d3, dn, b4, b10, gl, lm, sn, wl, wnz⟩ := kw
  have pb := zp_b b10
  have pk9 := zp_k d3
  refine lv_iload_n hx hb dX6_wordOf_0 rfl (lv_at hl 1 rfl) ?_
  refine lv_iconst (v := (nI 0)) hx hb dX6_wordOf_1 (by decide) ?_
  refine lv_bipush (v := (nI 15)) hx hb dX6_wordOf_2 (by decide) ?_
  refine zc_r (va_runS (As := [.int (x), .int (nI 0), .int (nI 15)]) (rest := []) ⟨hx, hb, hml, hown, hts⟩ (c_X6_in l D Y  x ((nI 0)) ((nI 15)) ) (va_cwS 3 hts gX6_wordOf_X6_in rfl rfl rfl (by decide +kernel) (by rw [hR]; exact ⟨Nat.le_of_ble_eq_true rfl, Nat.le_of_ble_eq_true rfl⟩)) ⟨zB_blind, (zp_r (v := [.int (x), .int (nI 0), .int (nI 15)]) (fun k q h => absurd h (by simp)) hK hN)⟩ rfl rfl hl.1 rfl (lv_room (Nat.le_of_ble_eq_true rfl)) dX6_wordOf_4 ⟨Nat.zero_le _, Nat.zero_le _⟩).run ?_
  have h4a : ((nI 0)).toInt = _ := zt_n (by omega)
  have h4b : ((nI 15)).toInt = _ := zt_n (by omega)
  refine zb_if_eq (tgt := 19)  hx hb dX6_wordOf_7 (by decide)  (fun c7 => ?_) (fun c7 => ?_)
  · refine lv_sipush (v := (-1001)) hx hb dX6_wordOf_19 (by decide) ?_
    exact zr_i hx hb hr hlk hQ dX6_wordOf_22 (by unfold wordV; rw [if_neg (by omega)])
  · obtain ⟨j9, hj9, rfl⟩ := zNat (x := x) (N := 16) (by omega) (by omega)
    refine lv_aload_n hx hb dX6_wordOf_10 rfl (lv_at hl 0 rfl) ?_
    refine va_get (D := D) (ci := 6) (v := .ref (A 6)) (C := RX6) (T := TX6) (N := 17) hx hb hts qX6_wordOf_inX6 hown hK hP 0 rfl rfl 7 (by decide) (hts _ qX6_wordOf_Cond_fieldLink_RX6_27_NestedCodesModel_word_I_) (fun _ h9 => h9) rfl dX6_wordOf_11 ?_
    refine lv_iload_n hx hb dX6_wordOf_14 rfl (lv_at hl 1 rfl) ?_
    refine za_i hx hb hK hP 6 (f := fun k9 => nI ((wdS σ) k9)) (v := (nI ((wdS σ) j9))) rfl (by omega) (by decide) dX6_wordOf_15 (rfl) ?_
    refine lv_goto (tgt := 22) hx hb dX6_wordOf_16 (by decide) ?_
    exact zr_i hx hb hr hlk hQ dX6_wordOf_22 (by unfold wordV; rw [if_pos (by omega), zToI (by omega)])
theorem qX6_product_Cond_fieldLink_RX6_19_NestedCodesModel_times_I_ : Cond.fieldLink RX6 19 "NestedCodesModel" "times" "[I" ∈ wsX6_product := by decide +kernel
theorem qX6_product_inX6 : ∀ w ∈ wsX60, w ∈ wsX6_product := by decide +kernel
set_option maxHeartbeats 4000000 in
set_option maxRecDepth 100000 in
theorem c_X6_product (l : Launch) (D : va_G) (Y : Nat → ClassId) (A : Nat → Nat) (σ : Nat → Nat) (hf : Nat → Nat) (hn : Nat) (wt : Nat → Nat) (wn : Nat) (sy : Nat → Nat) (gp : Nat → Nat) (i0 : Nat → Nat) (i1 : Nat → Nat) (i2 : Nat → Nat) (i3 : Nat → Nat) (fo : Int32) (de : Int32) (x : Int32) (y : Int32)  (kσ : zWF σ) (ksy : ∀ w9, w9 < 2 ^ (σ 2) → sy w9 = syS σ w9) (kgp : ∀ w9, w9 < 2 ^ (σ 2) → gp w9 = gpS σ w9) : Met l yX6_product wsX6_product ({ frames := 1, cells := 0, slots := 0, locals := 22 } : Room) (va_Pc [.ref (A 0), .int (x), .int (y)] (zB D Y (MX Y A σ hf hn wt wn tmS cdS (wdS σ) sy gp (ddS σ) i0 i1 i2 i3 fo de))) (zR (.int (prodV (x).toInt (y).toInt))) 0 0 (fun _ => False) := by
  refine zr_of (cc := cX6_product) (maxL := 3) (ret := (some .int)) (by decide) rfl (Nat.le_of_ble_eq_true rfl) ?_
  intro p e s m below meth c R args Q hR hx hb hml hr hlk hown hts hK hN hP hQ ls hl
  have hown : s.vm.findClass RX6 = some m.cls := hown
  have hl : lv_has ls 3 [(0, .ref (A 0)), (1, .int (x)), (2, .int (y))] := hl
  have kw := kσ
  obtain ⟨n3, n12, d1, d3, dn, b4, b10, gl, lm, sn, wl, wnz⟩ := kw
  have pb := zp_b b10
  have pk9 := zp_k d3
  refine lv_iload_n hx hb dX6_product_0 rfl (lv_at hl 1 rfl) ?_
  refine lv_iconst (v := (nI 0)) hx hb dX6_product_1 (by decide) ?_
  refine lv_bipush (v := (nI 15)) hx hb dX6_product_2 (by decide) ?_
  refine zc_r (va_runS (As := [.int (x), .int (nI 0), .int (nI 15)]) (rest := []) ⟨hx, hb, hml, hown, hts⟩ (c_X6_in l D Y  x ((nI 0)) ((nI 15)) ) (va_cwS 3 hts gX6_product_X6_in rfl rfl rfl (by decide +kernel) (by rw [hR]; exact ⟨Nat.le_of_ble_eq_true rfl, Nat.le_of_ble_eq_true rfl⟩)) ⟨zB_blind, (zp_r (v := [.int (x), .int (nI 0), .int (nI 15)]) (fun k q h => absurd h (by simp)) hK hN)⟩ rfl rfl hl.1 rfl (lv_room (Nat.le_of_ble_eq_true rfl)) dX6_product_4 ⟨Nat.zero_le _, Nat.zero_le _⟩).run ?_
  have h4a : ((nI 0)).toInt = _ := zt_n (by omega)
  have h4b : ((nI 15)).toInt = _ := zt_n (by omega)
  refine zb_if_eq (tgt := 34)  hx hb dX6_product_7 (by decide)  (fun c7 => ?_) (fun c7 => ?_)
  · refine lv_sipush (v := (-1001)) hx hb dX6_product_34 (by decide) ?_
    exact zr_i hx hb hr hlk hQ dX6_product_37 (by unfold prodV; rw [if_neg (by omega)])
  · refine lv_iload_n hx hb dX6_product_10 rfl (lv_at hl 2 rfl) ?_
    refine lv_iconst (v := (nI 0)) hx hb dX6_product_11 (by decide) ?_
    refine lv_bipush (v := (nI 15)) hx hb dX6_product_12 (by decide) ?_
    refine zc_r (va_runS (As := [.int (y), .int (nI 0), .int (nI 15)]) (rest := []) ⟨hx, hb, hml, hown, hts⟩ (c_X6_in l D Y  y ((nI 0)) ((nI 15)) ) (va_cwS 3 hts gX6_product_X6_in rfl rfl rfl (by decide +kernel) (by rw [hR]; exact ⟨Nat.le_of_ble_eq_true rfl, Nat.le_of_ble_eq_true rfl⟩)) ⟨zB_blind, (zp_r (v := [.int (y), .int (nI 0), .int (nI 15)]) (fun k q h => absurd h (by simp)) hK hN)⟩ rfl rfl hl.1 rfl (lv_room (Nat.le_of_ble_eq_true rfl)) dX6_product_14 ⟨Nat.zero_le _, Nat.zero_le _⟩).run ?_
    have h14a : ((nI 0)).toInt = _ := zt_n (by omega)
    have h14b : ((nI 15)).toInt = _ := zt_n (by omega)
    refine zb_if_eq (tgt := 34)  hx hb dX6_product_17 (by decide)  (fun c17 => ?_) (fun c17 => ?_)
    · refine lv_sipush (v := (-1001)) hx hb dX6_product_34 (by decide) ?_
      exact zr_i hx hb hr hlk hQ dX6_product_37 (by unfold prodV; rw [if_neg (by omega)])
    · obtain ⟨j9, hj9, rfl⟩ := zNat (x := x) (N := 16) (by omega) (by omega)
      obtain ⟨i9, hi9, rfl⟩ := zNat (x := y) (N := 16) (by omega) (by omega)
      refine lv_aload_n hx hb dX6_product_20 rfl (lv_at hl 0 rfl) ?_
      refine va_get (D := D) (ci := 6) (v := .ref (A 4)) (C := RX6) (T := TX6) (N := 17) hx hb hts qX6_product_inX6 hown hK hP 0 rfl rfl 5 (by decide) (hts _ qX6_product_Cond_fieldLink_RX6_19_NestedCodesModel_times_I_) (fun _ h9 => h9) rfl dX6_product_21 ?_
      refine lv_bipush (v := (nI 16)) hx hb dX6_product_24 (by decide) ?_
      refine lv_iload_n hx hb dX6_product_26 rfl (lv_at hl 1 rfl) ?_
      refine zv_imul hx hb (v := (nI (16 * j9))) dX6_product_27 (pk_mul _ _) ?_
      refine lv_iload_n hx hb dX6_product_28 rfl (lv_at hl 2 rfl) ?_
      refine zv_iadd hx hb (v := (nI ((16 * j9) + i9))) dX6_product_29 (nI_add _ _) ?_
      refine za_i hx hb hK hP 4 (f := fun k9 => nI (tmS k9)) (v := (nI (gmul j9 i9))) rfl (by omega) (by decide) dX6_product_30 (congrArg nI (tmS_at j9 (by omega))) ?_
      refine lv_goto (tgt := 37) hx hb dX6_product_31 (by decide) ?_
      exact zr_i hx hb hr hlk hQ dX6_product_37 (by unfold prodV; rw [if_pos (by omega), zToI (by omega), zToI (by omega)])
theorem qX6_symbolFor_Cond_fieldLink_RX6_23_NestedCodesModel_code_B_ : Cond.fieldLink RX6 23 "NestedCodesModel" "code" "[B" ∈ wsX6_symbolFor := by decide +kernel
theorem qX6_symbolFor_inX6 : ∀ w ∈ wsX60, w ∈ wsX6_symbolFor := by decide +kernel
set_option maxHeartbeats 4000000 in
set_option maxRecDepth 100000 in
theorem c_X6_symbolFor (l : Launch) (D : va_G) (Y : Nat → ClassId) (A : Nat → Nat) (σ : Nat → Nat) (hf : Nat → Nat) (hn : Nat) (wt : Nat → Nat) (wn : Nat) (sy : Nat → Nat) (gp : Nat → Nat) (i0 : Nat → Nat) (i1 : Nat → Nat) (i2 : Nat → Nat) (i3 : Nat → Nat) (fo : Int32) (de : Int32) (x : Int32) (y : Int32)  (kσ : zWF σ) (ksy : ∀ w9, w9 < 2 ^ (σ 2) → sy w9 = syS σ w9) (kgp : ∀ w9, w9 < 2 ^ (σ 2) → gp w9 = gpS σ w9) : Met l yX6_symbolFor wsX6_symbolFor ({ frames := 2, cells := 0, slots := 0, locals := 43 } : Room) (va_Pc [.ref (A 0), .int (x), .int (y)] (zB D Y (MX Y A σ hf hn wt wn tmS cdS (wdS σ) sy gp (ddS σ) i0 i1 i2 i3 fo de))) (zR (.int (symV σ (x).toInt (y).toInt))) 0 0 (fun _ => False) := by
  refine zr_of (cc := cX6_symbolFor) (maxL := 3) (ret := (some .int)) (by decide) rfl (Nat.le_of_ble_eq_true rfl) ?_
  intro p e s m below meth c R args Q hR hx hb hml hr hlk hown hts hK hN hP hQ ls hl
  have hown : s.vm.findClass RX6 = some m.cls := hown
  have hl : lv_has ls 3 [(0, .ref (A 0)), (1, .int (x)), (2, .int (y))] := hl
  have kw := kσ
  obtain ⟨n3, n12, d1, d3, dn, b4, b10, gl, lm, sn, wl, wnz⟩ := kw
  have pb := zp_b b10
  have pk9 := zp_k d3
  refine lv_aload_n hx hb dX6_symbolFor_0 rfl (lv_at hl 0 rfl) ?_
  refine lv_iload_n hx hb dX6_symbolFor_1 rfl (lv_at hl 1 rfl) ?_
  refine zc_r (va_runV (As := [.int (x)]) (rest := []) ⟨hx, hb, hml, hown, hts⟩ (c_X6_isMessage l D Y A σ hf hn wt wn tmS cdS (wdS σ) sy gp (ddS σ) i0 i1 i2 i3 fo de x kσ) (cwV 1 hts gX6_symbolFor_X6_isMessage rfl rfl rfl (by decide +kernel) (by rw [hR]; exact ⟨Nat.le_of_ble_eq_true rfl, Nat.le_of_ble_eq_true rfl⟩)) ⟨zB_blind, va_recv hK hP (ci := 6) (q0 := 0) rfl rfl, zp_r hP hK hN⟩ rfl rfl hl.1 rfl (lv_room (Nat.le_of_ble_eq_true rfl)) dX6_symbolFor_2 ⟨Nat.zero_le _, Nat.zero_le _⟩).run ?_
  refine zb_if_eq (tgt := 30)  hx hb dX6_symbolFor_5 (by decide)  (fun c5 => ?_) (fun c5 => ?_)
  · refine lv_sipush (v := (-1001)) hx hb dX6_symbolFor_30 (by decide) ?_
    exact zr_i hx hb hr hlk hQ dX6_symbolFor_33 (by unfold symV; rw [if_neg (by omega)])
  · refine lv_aload_n hx hb dX6_symbolFor_8 rfl (lv_at hl 0 rfl) ?_
    refine lv_iload_n hx hb dX6_symbolFor_9 rfl (lv_at hl 2 rfl) ?_
    refine zc_r (va_runV (As := [.int (y)]) (rest := []) ⟨hx, hb, hml, hown, hts⟩ (c_X6_isBlock l D Y A σ hf hn wt wn tmS cdS (wdS σ) sy gp (ddS σ) i0 i1 i2 i3 fo de y n12 (by omega)) (cwV 1 hts gX6_symbolFor_X6_isBlock rfl rfl rfl (by decide +kernel) (by rw [hR]; exact ⟨Nat.le_of_ble_eq_true rfl, Nat.le_of_ble_eq_true rfl⟩)) ⟨zB_blind, va_recv hK hP (ci := 6) (q0 := 0) rfl rfl, zp_r hP hK hN⟩ rfl rfl hl.1 rfl (lv_room (Nat.le_of_ble_eq_true rfl)) dX6_symbolFor_10 ⟨Nat.zero_le _, Nat.zero_le _⟩).run ?_
    refine zb_if_eq (tgt := 30)  hx hb dX6_symbolFor_13 (by decide)  (fun c13 => ?_) (fun c13 => ?_)
    · refine lv_sipush (v := (-1001)) hx hb dX6_symbolFor_30 (by decide) ?_
      exact zr_i hx hb hr hlk hQ dX6_symbolFor_33 (by unfold symV; rw [if_neg (by omega)])
    · obtain ⟨j9, hj9, rfl⟩ := zNat (x := x) (N := 2 ^ (4 * σ 1)) (by omega) (by omega)
      obtain ⟨i9, hi9, rfl⟩ := zNat (x := y) (N := σ 0) (by omega) (by omega)
      have h89 : j9 < 4096 := by omega
      refine lv_aload_n hx hb dX6_symbolFor_16 rfl (lv_at hl 0 rfl) ?_
      refine va_get (D := D) (ci := 6) (v := .ref (A 5)) (C := RX6) (T := TX6) (N := 17) hx hb hts qX6_symbolFor_inX6 hown hK hP 0 rfl rfl 6 (by decide) (hts _ qX6_symbolFor_Cond_fieldLink_RX6_23_NestedCodesModel_code_B_) (fun _ h9 => h9) rfl dX6_symbolFor_17 ?_
      refine lv_bipush (v := (nI 12)) hx hb dX6_symbolFor_20 (by decide) ?_
      refine lv_iload_n hx hb dX6_symbolFor_22 rfl (lv_at hl 1 rfl) ?_
      refine zv_imul hx hb (v := (nI (12 * j9))) dX6_symbolFor_23 (pk_mul _ _) ?_
      refine lv_iload_n hx hb dX6_symbolFor_24 rfl (lv_at hl 2 rfl) ?_
      refine zv_iadd hx hb (v := (nI ((12 * j9) + i9))) dX6_symbolFor_25 (nI_add _ _) ?_
      refine za_b hx hb hK hP 5 (f := fun k9 => nI (cdS k9)) (v := (nI (zcw j9 i9))) rfl (by omega) (by decide) dX6_symbolFor_26 (congrArg nI (cdS_at j9 (by omega))) ?_
      refine lv_goto (tgt := 33) hx hb dX6_symbolFor_27 (by decide) ?_
      exact zr_i hx hb hr hlk hQ dX6_symbolFor_33 (by unfold symV; rw [if_pos ⟨c5, c13⟩, zToI (by omega), zToI (by omega)])
theorem qX6_received_Cond_fieldLink_RX6_7_NestedCodesModel_d_I_ : Cond.fieldLink RX6 7 "NestedCodesModel" "d" "[I" ∈ wsX6_received := by decide +kernel
theorem qX6_received_inX6 : ∀ w ∈ wsX60, w ∈ wsX6_received := by decide +kernel
set_option maxHeartbeats 4000000 in
set_option maxRecDepth 100000 in
theorem c_X6_received (l : Launch) (D : va_G) (Y : Nat → ClassId) (A : Nat → Nat) (σ : Nat → Nat) (hf : Nat → Nat) (hn : Nat) (wt : Nat → Nat) (wn : Nat) (sy : Nat → Nat) (gp : Nat → Nat) (i0 : Nat → Nat) (i1 : Nat → Nat) (i2 : Nat → Nat) (i3 : Nat → Nat) (fo : Int32) (de : Int32) (y : Int32)  (kσ : zWF σ) (ksy : ∀ w9, w9 < 2 ^ (σ 2) → sy w9 = syS σ w9) (kgp : ∀ w9, w9 < 2 ^ (σ 2) → gp w9 = gpS σ w9) : Met l yX6_received wsX6_received ({ frames := 2, cells := 0, slots := 0, locals := 43 } : Room) (va_Pc [.ref (A 0), .int (y)] (zB D Y (MX Y A σ hf hn wt wn tmS cdS (wdS σ) sy gp (ddS σ) i0 i1 i2 i3 fo de))) (zR (.int (recvV σ (y).toInt))) 0 0 (fun _ => False) := by
  refine zr_of (cc := cX6_received) (maxL := 2) (ret := (some .int)) (by decide) rfl (Nat.le_of_ble_eq_true rfl) ?_
  intro p e s m below meth c R args Q hR hx hb hml hr hlk hown hts hK hN hP hQ ls hl
  have hown : s.vm.findClass RX6 = some m.cls := hown
  have hl : lv_has ls 2 [(0, .ref (A 0)), (1, .int (y))] := hl
  have kw := kσ
  obtain ⟨n3, n12, d1, d3, dn, b4, b10, gl, lm, sn, wl, wnz⟩ := kw
  have pb := zp_b b10
  have pk9 := zp_k d3
  refine lv_aload_n hx hb dX6_received_0 rfl (lv_at hl 0 rfl) ?_
  refine lv_iload_n hx hb dX6_received_1 rfl (lv_at hl 1 rfl) ?_
  refine zc_r (va_runV (As := [.int (y)]) (rest := []) ⟨hx, hb, hml, hown, hts⟩ (c_X6_isBlock l D Y A σ hf hn wt wn tmS cdS (wdS σ) sy gp (ddS σ) i0 i1 i2 i3 fo de y n12 (by omega)) (cwV 1 hts gX6_received_X6_isBlock rfl rfl rfl (by decide +kernel) (by rw [hR]; exact ⟨Nat.le_of_ble_eq_true rfl, Nat.le_of_ble_eq_true rfl⟩)) ⟨zB_blind, va_recv hK hP (ci := 6) (q0 := 0) rfl rfl, zp_r hP hK hN⟩ rfl rfl hl.1 rfl (lv_room (Nat.le_of_ble_eq_true rfl)) dX6_received_2 ⟨Nat.zero_le _, Nat.zero_le _⟩).run ?_
  refine zb_if_ne (tgt := 14)  hx hb dX6_received_5 (by decide)  (fun c5 => ?_) (fun c5 => ?_)
  · obtain ⟨j9, hj9, rfl⟩ := zNat (x := y) (N := σ 0) (by omega) (by omega)
    refine lv_aload_n hx hb dX6_received_14 rfl (lv_at hl 0 rfl) ?_
    refine lv_iload_n hx hb dX6_received_15 rfl (lv_at hl 1 rfl) ?_
    refine zc_r (va_runV (As := [.int (nI j9)]) (rest := []) ⟨hx, hb, hml, hown, hts⟩ (c_X6_isLost l D Y A σ hf hn wt wn tmS cdS (wdS σ) sy gp (ddS σ) i0 i1 i2 i3 fo de j9 lm (by omega)) (cwV 1 hts gX6_received_X6_isLost rfl rfl rfl (by decide +kernel) (by rw [hR]; exact ⟨Nat.le_of_ble_eq_true rfl, Nat.le_of_ble_eq_true rfl⟩)) ⟨zB_blind, va_recv hK hP (ci := 6) (q0 := 0) rfl rfl, zp_r hP hK hN⟩ rfl rfl hl.1 rfl (lv_room (Nat.le_of_ble_eq_true rfl)) dX6_received_16 ⟨Nat.zero_le _, Nat.zero_le _⟩).run ?_
    refine zb_if_eq (tgt := 28)  hx hb dX6_received_19 (by decide)  (fun c19 => ?_) (fun c19 => ?_)
    · refine lv_aload_n hx hb dX6_received_28 rfl (lv_at hl 0 rfl) ?_
      refine va_get (D := D) (ci := 6) (v := .ref (A 1)) (C := RX6) (T := TX6) (N := 17) hx hb hts qX6_received_inX6 hown hK hP 0 rfl rfl 0 (by decide) (hts _ qX6_received_Cond_fieldLink_RX6_7_NestedCodesModel_d_I_) (fun _ h9 => h9) rfl dX6_received_29 ?_
      refine lv_bipush (v := (nI 9)) hx hb dX6_received_32 (by decide) ?_
      refine lv_iload_n hx hb dX6_received_34 rfl (lv_at hl 1 rfl) ?_
      refine zv_iadd hx hb (v := (nI (9 + j9))) dX6_received_35 (nI_add _ _) ?_
      refine za_i hx hb hK hP 1 (f := fun k9 => nI (σ k9)) (v := (nI (σ (9 + j9)))) rfl (by omega) (by decide) dX6_received_36 (rfl) ?_
      exact zr_i hx hb hr hlk hQ dX6_received_37 (by unfold recvV; rw [if_pos c5, zToI (by omega), if_neg c19])
    · refine lv_sipush (v := (-1004)) hx hb dX6_received_22 (by decide) ?_
      refine lv_goto (tgt := 37) hx hb dX6_received_25 (by decide) ?_
      exact zr_i hx hb hr hlk hQ dX6_received_37 (by unfold recvV; rw [if_pos c5, zToI (by omega), if_pos c19])
  · refine lv_sipush (v := (-1001)) hx hb dX6_received_8 (by decide) ?_
    refine lv_goto (tgt := 37) hx hb dX6_received_11 (by decide) ?_
    exact zr_i hx hb hr hlk hQ dX6_received_37 (by unfold recvV; rw [if_neg c5])
theorem qX6_sent_Cond_fieldLink_RX6_7_NestedCodesModel_d_I_ : Cond.fieldLink RX6 7 "NestedCodesModel" "d" "[I" ∈ wsX6_sent := by decide +kernel
theorem qX6_sent_inX6 : ∀ w ∈ wsX60, w ∈ wsX6_sent := by decide +kernel
set_option maxHeartbeats 4000000 in
set_option maxRecDepth 100000 in
theorem c_X6_sent (l : Launch) (D : va_G) (Y : Nat → ClassId) (A : Nat → Nat) (σ : Nat → Nat) (hf : Nat → Nat) (hn : Nat) (wt : Nat → Nat) (wn : Nat) (sy : Nat → Nat) (gp : Nat → Nat) (i0 : Nat → Nat) (i1 : Nat → Nat) (i2 : Nat → Nat) (i3 : Nat → Nat) (fo : Int32) (de : Int32)   (kσ : zWF σ) (ksy : ∀ w9, w9 < 2 ^ (σ 2) → sy w9 = syS σ w9) (kgp : ∀ w9, w9 < 2 ^ (σ 2) → gp w9 = gpS σ w9) : Met l yX6_sent wsX6_sent ({ frames := 0, cells := 0, slots := 0, locals := 0 } : Room) (va_Pc [.ref (A 0)] (zB D Y (MX Y A σ hf hn wt wn tmS cdS (wdS σ) sy gp (ddS σ) i0 i1 i2 i3 fo de))) (zR (.int (nI (σ 8)))) 0 0 (fun _ => False) := by
  refine zr_of (cc := cX6_sent) (maxL := 1) (ret := (some .int)) (by decide) rfl (Nat.le_of_ble_eq_true rfl) ?_
  intro p e s m below meth c R args Q hR hx hb hml hr hlk hown hts hK hN hP hQ ls hl
  have hown : s.vm.findClass RX6 = some m.cls := hown
  have hl : lv_has ls 1 [(0, .ref (A 0))] := hl
  have kw := kσ
  obtain ⟨n3, n12, d1, d3, dn, b4, b10, gl, lm, sn, wl, wnz⟩ := kw
  have pb := zp_b b10
  have pk9 := zp_k d3
  refine lv_aload_n hx hb dX6_sent_0 rfl (lv_at hl 0 rfl) ?_
  refine va_get (D := D) (ci := 6) (v := .ref (A 1)) (C := RX6) (T := TX6) (N := 17) hx hb hts qX6_sent_inX6 hown hK hP 0 rfl rfl 0 (by decide) (hts _ qX6_sent_Cond_fieldLink_RX6_7_NestedCodesModel_d_I_) (fun _ h9 => h9) rfl dX6_sent_1 ?_
  refine lv_bipush (v := (nI 8)) hx hb dX6_sent_4 (by decide) ?_
  refine za_i hx hb hK hP 1 (f := fun k9 => nI (σ k9)) (v := (nI (σ 8))) rfl (by omega) (by decide) dX6_sent_6 (rfl) ?_
  exact zr_i hx hb hr hlk hQ dX6_sent_7 (rfl)
set_option maxHeartbeats 4000000 in
set_option maxRecDepth 100000 in
theorem c_X6_send_bad (l : Launch) (D : va_G) (Y : Nat → ClassId) (A : Nat → Nat) (σ : Nat → Nat) (hf : Nat → Nat) (hn : Nat) (wt : Nat → Nat) (wn : Nat) (sy : Nat → Nat) (gp : Nat → Nat) (i0 : Nat → Nat) (i1 : Nat → Nat) (i2 : Nat → Nat) (i3 : Nat → Nat) (fo : Int32) (de : Int32) (x : Int32)  (kσ : zWF σ) (ksy : ∀ w9, w9 < 2 ^ (σ 2) → sy w9 = syS σ w9) (kgp : ∀ w9, w9 < 2 ^ (σ 2) → gp w9 = gpS σ w9) (hbad : ¬ (0 ≤ (x).toInt ∧ (x).toInt < ((2 ^ (4 * σ 1) : Nat) : Int))) : Met l yX6_send wsX6_send ({ frames := 2, cells := 0, slots := 0, locals := 43 } : Room) (va_Pc [.ref (A 0), .int (x)] (zB D Y (MX Y A σ hf hn wt wn tmS cdS (wdS σ) sy gp (ddS σ) i0 i1 i2 i3 fo de))) (zR (.int (-1001))) 0 0 (fun _ => False) := by
  refine zr_of (cc := cX6_send) (maxL := 4) (ret := (some .int)) (by decide) rfl (Nat.le_of_ble_eq_true rfl) ?_
  intro p e s m below meth c R args Q hR hx hb hml hr hlk hown hts hK hN hP hQ ls hl
  have hown : s.vm.findClass RX6 = some m.cls := hown
  have hl : lv_has ls 4 [(0, .ref (A 0)), (1, .int (x))] := hl
  have kw := kσ
  obtain ⟨n3, n12, d1, d3, dn, b4, b10, gl, lm, sn, wl, wnz⟩ := kw
  have pb := zp_b b10
  have pk9 := zp_k d3
  refine lv_aload_n hx hb dX6_send_0 rfl (lv_at hl 0 rfl) ?_
  refine lv_iload_n hx hb dX6_send_1 rfl (lv_at hl 1 rfl) ?_
  refine zc_r (va_runV (As := [.int (x)]) (rest := []) ⟨hx, hb, hml, hown, hts⟩ (c_X6_isMessage l D Y A σ hf hn wt wn tmS cdS (wdS σ) sy gp (ddS σ) i0 i1 i2 i3 fo de x kσ) (cwV 1 hts gX6_send_X6_isMessage rfl rfl rfl (by decide +kernel) (by rw [hR]; exact ⟨Nat.le_of_ble_eq_true rfl, Nat.le_of_ble_eq_true rfl⟩)) ⟨zB_blind, va_recv hK hP (ci := 6) (q0 := 0) rfl rfl, zp_r hP hK hN⟩ rfl rfl hl.1 rfl (lv_room (Nat.le_of_ble_eq_true rfl)) dX6_send_2 ⟨Nat.zero_le _, Nat.zero_le _⟩).run ?_
  refine zb_if_ne (tgt := 12)  hx hb dX6_send_5 (by decide)  (fun c5 => ?_) (fun c5 => ?_)
  · exact absurd c5 hbad
  · refine lv_sipush (v := (-1001)) hx hb dX6_send_8 (by decide) ?_
    exact zr_i hx hb hr hlk hQ dX6_send_11 (rfl)
theorem qX6_send_Cond_fieldLink_RX6_7_NestedCodesModel_d_I_ : Cond.fieldLink RX6 7 "NestedCodesModel" "d" "[I" ∈ wsX6_send := by decide +kernel
theorem qX6_send_inX6 : ∀ w ∈ wsX60, w ∈ wsX6_send := by decide +kernel
theorem qX6_send_Cond_fieldLink_RX6_27_NestedCodesModel_word_I_ : Cond.fieldLink RX6 27 "NestedCodesModel" "word" "[I" ∈ wsX6_send := by decide +kernel
theorem qX6_send_Cond_fieldLink_RX6_23_NestedCodesModel_code_B_ : Cond.fieldLink RX6 23 "NestedCodesModel" "code" "[B" ∈ wsX6_send := by decide +kernel
set_option maxHeartbeats 4000000 in
set_option maxRecDepth 100000 in
theorem c_X6_send (l : Launch) (D : va_G) (Y : Nat → ClassId) (A : Nat → Nat) (σ : Nat → Nat) (hf : Nat → Nat) (hn : Nat) (wt : Nat → Nat) (wn : Nat) (sy : Nat → Nat) (gp : Nat → Nat) (i0 : Nat → Nat) (i1 : Nat → Nat) (i2 : Nat → Nat) (i3 : Nat → Nat) (fo : Int32) (de : Int32) (m9 : Nat)  (kσ : zWF σ) (ksy : ∀ w9, w9 < 2 ^ (σ 2) → sy w9 = syS σ w9) (kgp : ∀ w9, w9 < 2 ^ (σ 2) → gp w9 = gpS σ w9) (khn : hn ≤ 6) (hm : m9 < 2 ^ (4 * σ 1)) : Met l yX6_send wsX6_send ({ frames := 2, cells := 0, slots := 0, locals := 43 } : Room) (va_Pc [.ref (A 0), .int (nI m9)] (zBw D Y (MX Y A σ hf hn wt wn tmS cdS (wdS σ) sy gp (ddS σ) i0 i1 i2 i3 fo de))) (zW (some (.int (nI (sndN σ m9 (σ 0))))) D (MX Y A (sndI σ m9 (σ 0)) (recF hf hn σ) (recN hn) wt wn tmS cdS (wdS (sndI σ m9 (σ 0))) sy gp (ddS (sndI σ m9 (σ 0))) i0 i1 i2 i3 fo de) (zA (MX Y A σ hf hn wt wn tmS cdS (wdS σ) sy gp (ddS σ) i0 i1 i2 i3 fo de))) 0 0 (zA (MX Y A σ hf hn wt wn tmS cdS (wdS σ) sy gp (ddS σ) i0 i1 i2 i3 fo de)) := by
  refine zw_of (cc := cX6_send) (maxL := 4) (ret := (some .int)) (by decide) rfl (Nat.le_of_ble_eq_true rfl) ?_
  intro p e s m below meth c R args Q FA hR hx hb hml hr hlk hown hts hK hN hQ hP hD hS ls hl
  have hown : s.vm.findClass RX6 = some m.cls := hown
  have hl : lv_has ls 4 [(0, .ref (A 0)), (1, .int (nI m9))] := hl
  have hS := hS
  have kw := kσ
  obtain ⟨n3, n12, d1, d3, dn, b4, b10, gl, lm, sn, wl, wnz⟩ := kw
  have pb := zp_b b10
  have pk9 := zp_k d3
  suffices hgo : ∀ (H : Heap) (locs : List Loc), va_P D vwCl (MX Y A σ hf hn wt wn tmS cdS (wdS σ) sy gp (ddS σ) i0 i1 i2 i3 fo de) H → va_S FA s.heap H locs → W p l e R s m args below meth c H locs 0 0 Q (F0 m 0 ls []) from hgo _ _ hP hS
  clear hP hS
  intro H locs hP hS
  refine lv_aload_n hx hb dX6_send_0 rfl (lv_at hl 0 rfl) ?_
  refine lv_iload_n hx hb dX6_send_1 rfl (lv_at hl 1 rfl) ?_
  refine zc_r (va_runV (As := [.int (nI m9)]) (rest := []) ⟨hx, hb, hml, hown, hts⟩ (c_X6_isMessage l D Y A σ hf hn wt wn tmS cdS (wdS σ) sy gp (ddS σ) i0 i1 i2 i3 fo de ((nI m9)) kσ) (cwV 1 hts gX6_send_X6_isMessage rfl rfl rfl (by decide +kernel) (by rw [hR]; exact ⟨Nat.le_of_ble_eq_true rfl, Nat.le_of_ble_eq_true rfl⟩)) ⟨zB_blind, va_recv hK hP (ci := 6) (q0 := 0) rfl rfl, zp_r hP hK hN⟩ rfl rfl hl.1 rfl (lv_room (Nat.le_of_ble_eq_true rfl)) dX6_send_2 ⟨Nat.zero_le _, Nat.zero_le _⟩).run ?_
  refine zb_if_ne (tgt := 12)  hx hb dX6_send_5 (by decide)  (fun c5 => ?_) (fun c5 => ?_)
  · refine lv_aload_n hx hb dX6_send_12 rfl (lv_at hl 0 rfl) ?_
    refine zc_w (va_runV (As := []) (rest := []) ⟨hx, hb, hml, hown, hts⟩ (c_X6_records l D Y A σ hf hn wt wn tmS cdS (wdS σ) sy gp (ddS σ) i0 i1 i2 i3 fo de  khn) (cwV 0 hts gX6_send_X6_records rfl rfl rfl (by decide +kernel) (by rw [hR]; exact ⟨Nat.le_of_ble_eq_true rfl, Nat.le_of_ble_eq_true rfl⟩)) ⟨zBw_blind, va_recv hK hP (ci := 6) (q0 := 0) rfl rfl, zp_w hP hD hK hN⟩ rfl rfl hl.1 rfl (lv_room (Nat.le_of_ble_eq_true rfl)) dX6_send_13 ⟨Nat.zero_le _, Nat.zero_le _⟩).run hS (zA_of hD) (fun H locs hP hz hk hS => ?_)
    have hD : va_D FA (MX Y A σ (recF hf hn σ) (recN hn) wt wn tmS cdS (wdS σ) sy gp (ddS σ) i0 i1 i2 i3 fo de) := MX_dd hD
    refine lv_aload_n hx hb dX6_send_16 rfl (lv_at hl 0 rfl) ?_
    refine zc_w (va_runV (As := []) (rest := []) ⟨hx, hb, hml, hown, hts⟩ (c_X6_empties l D Y A σ (recF hf hn σ) (recN hn) wt wn tmS cdS (wdS σ) sy gp (ddS σ) i0 i1 i2 i3 fo de  ) (cwV 0 hts gX6_send_X6_empties rfl rfl rfl (by decide +kernel) (by rw [hR]; exact ⟨Nat.le_of_ble_eq_true rfl, Nat.le_of_ble_eq_true rfl⟩)) ⟨zBw_blind, va_recv hK hP (ci := 6) (q0 := 0) rfl rfl, zp_w hP hD hK hN⟩ rfl rfl hl.1 rfl (lv_room (Nat.le_of_ble_eq_true rfl)) dX6_send_17 ⟨Nat.zero_le _, Nat.zero_le _⟩).run hS (zA_of hD) (fun H locs hP hz hk hS => ?_)
    have hD : va_D FA (MX Y A (clr σ) (recF hf hn σ) (recN hn) wt wn tmS cdS (wdS σ) sy gp (ddS σ) i0 i1 i2 i3 fo de) := MX_dd hD
    refine lv_aload_n hx hb dX6_send_20 rfl (lv_at hl 0 rfl) ?_
    refine va_get (D := D) (ci := 6) (v := .ref (A 1)) (C := RX6) (T := TX6) (N := 17) hx hb hts qX6_send_inX6 hown hK hP 0 rfl rfl 0 (by decide) (hts _ qX6_send_Cond_fieldLink_RX6_7_NestedCodesModel_d_I_) (fun _ h9 => h9) rfl dX6_send_21 ?_
    refine lv_bipush (v := (nI 8)) hx hb dX6_send_24 (by decide) ?_
    refine lv_iload_n hx hb dX6_send_26 rfl (lv_at hl 1 rfl) ?_
    refine zs_i hx hb hK hP hD hS 1 (f := fun k9 => nI ((clr σ) k9)) rfl (by omega) (by decide) dX6_send_27 (fun H locs hP hD9 hS => ?_)
    rw [zupd] at hP
    rw [MX_s1] at hP
    have hP : va_P D vwCl (MX Y A (va_up (clr σ) 8 m9) (recF hf hn σ) (recN hn) wt wn tmS cdS (wdS σ) sy gp (ddS σ) i0 i1 i2 i3 fo de) H := hP
    have hD : va_D FA (MX Y A (va_up (clr σ) 8 m9) (recF hf hn σ) (recN hn) wt wn tmS cdS (wdS σ) sy gp (ddS σ) i0 i1 i2 i3 fo de) := MX_dd hD
    clear hD9
    refine lv_iconst (v := (nI 0)) hx hb dX6_send_28 (by decide) ?_
    refine lv_istore_n (lv' := [(2, .int (nI 0)), (0, .ref (A 0)), (1, .int (nI m9))]) hx hb dX6_send_29 rfl hl (by decide) rfl (fun ls hl => ?_)
    refine lv_iconst (v := (nI 0)) hx hb dX6_send_30 (by decide) ?_
    refine lv_istore_n (lv' := [(3, .int (nI 0)), (2, .int (nI 0)), (0, .ref (A 0)), (1, .int (nI m9))]) hx hb dX6_send_31 rfl hl (by decide) rfl (fun ls hl => ?_)
    have L32 : ∀ (n9 : Nat) (i : Nat) (hi : i ≤ σ 0), σ 0 - i < n9 → ∀ (H : Heap) (locs : List Loc), va_P D vwCl (MX Y A (sndI σ m9 i) (recF hf hn σ) (recN hn) wt wn tmS cdS (wdS σ) sy gp (ddS σ) i0 i1 i2 i3 fo de) H → va_D FA (MX Y A (sndI σ m9 i) (recF hf hn σ) (recN hn) wt wn tmS cdS (wdS σ) sy gp (ddS σ) i0 i1 i2 i3 fo de) → va_S FA s.heap H locs → ∀ ls : Array Slot, lv_has ls 4 [(3, .int (nI i)), (2, .int (nI (sndN σ m9 i))), (0, .ref (A 0)), (1, .int (nI m9))] → W p l e R s m args below meth c H locs 0 0 Q (F0 m 32 ls []) := by
      intro n9
      induction n9 with
      | zero => intro i hi hn9; exact absurd hn9 (Nat.not_lt_zero _)
      | succ n9 ih9 =>
        have ih32 := ih9
        clear ih9
        intro i hi hn9 H locs hP hD hS ls hl
        have hsl := sndN_le σ m9 i
        have hwb := zwd_1024 kσ (zcw m9 i)
        have hpw := popc_le (wdS σ (zcw m9 i))
        refine lv_iload_n hx hb dX6_send_32 rfl (lv_at hl 0 rfl) ?_
        refine lv_aload_n hx hb dX6_send_33 rfl (lv_at hl 2 rfl) ?_
        refine va_get (D := D) (ci := 6) (v := .ref (A 1)) (C := RX6) (T := TX6) (N := 17) hx hb hts qX6_send_inX6 hown hK hP 0 rfl rfl 0 (by decide) (hts _ qX6_send_Cond_fieldLink_RX6_7_NestedCodesModel_d_I_) (fun _ h9 => h9) rfl dX6_send_34 ?_
        refine lv_iconst (v := (nI 0)) hx hb dX6_send_37 (by decide) ?_
        refine za_i hx hb hK hP 1 (f := fun k9 => nI ((sndI σ m9 i) k9)) (v := (nI (σ 0))) rfl (by omega) (by decide) dX6_send_38 (congrArg nI (sndI_lo σ m9 i (by decide))) ?_
        refine zn_icmp_ge (tgt := 88)  hx hb dX6_send_39 (by decide) (by omega) (by omega) (fun c39 => ?_) (fun c39 => ?_)
        · obtain rfl : i = σ 0 := by omega
          refine lv_iload_n hx hb dX6_send_88 rfl (lv_at hl 1 rfl) ?_
          exact zw_i hx hb hr hlk hQ hS dX6_send_89 (rfl) ((by rw [wd_same (snd_g σ m9 (σ 0)), dd_same (snd_g σ m9 (σ 0))]; exact hP))
        · refine lv_aload_n hx hb dX6_send_42 rfl (lv_at hl 2 rfl) ?_
          refine va_get (D := D) (ci := 6) (v := .ref (A 1)) (C := RX6) (T := TX6) (N := 17) hx hb hts qX6_send_inX6 hown hK hP 0 rfl rfl 0 (by decide) (hts _ qX6_send_Cond_fieldLink_RX6_7_NestedCodesModel_d_I_) (fun _ h9 => h9) rfl dX6_send_43 ?_
          refine lv_bipush (v := (nI 9)) hx hb dX6_send_46 (by decide) ?_
          refine lv_iload_n hx hb dX6_send_48 rfl (lv_at hl 0 rfl) ?_
          refine zv_iadd hx hb (v := (nI (9 + i))) dX6_send_49 (nI_add _ _) ?_
          refine lv_aload_n hx hb dX6_send_50 rfl (lv_at hl 2 rfl) ?_
          refine va_get (D := D) (ci := 6) (v := .ref (A 6)) (C := RX6) (T := TX6) (N := 17) hx hb hts qX6_send_inX6 hown hK hP 0 rfl rfl 7 (by decide) (hts _ qX6_send_Cond_fieldLink_RX6_27_NestedCodesModel_word_I_) (fun _ h9 => h9) rfl dX6_send_51 ?_
          refine lv_aload_n hx hb dX6_send_54 rfl (lv_at hl 2 rfl) ?_
          refine va_get (D := D) (ci := 6) (v := .ref (A 5)) (C := RX6) (T := TX6) (N := 17) hx hb hts qX6_send_inX6 hown hK hP 0 rfl rfl 6 (by decide) (hts _ qX6_send_Cond_fieldLink_RX6_23_NestedCodesModel_code_B_) (fun _ h9 => h9) rfl dX6_send_55 ?_
          refine lv_bipush (v := (nI 12)) hx hb dX6_send_58 (by decide) ?_
          refine lv_iload_n hx hb dX6_send_60 rfl (lv_at hl 3 rfl) ?_
          refine zv_imul hx hb (v := (nI (12 * m9))) dX6_send_61 (pk_mul _ _) ?_
          refine lv_iload_n hx hb dX6_send_62 rfl (lv_at hl 0 rfl) ?_
          refine zv_iadd hx hb (v := (nI ((12 * m9) + i))) dX6_send_63 (nI_add _ _) ?_
          refine za_b hx hb hK hP 5 (f := fun k9 => nI (cdS k9)) (v := (nI (zcw m9 i))) rfl (by omega) (by decide) dX6_send_64 (congrArg nI (cdS_at m9 (by omega))) ?_
          refine za_i hx hb hK hP 6 (f := fun k9 => nI ((wdS σ) k9)) (v := (nI ((wdS σ) (zcw m9 i)))) rfl (zcw_lt (by omega) (by omega)) (by decide) dX6_send_65 (rfl) ?_
          refine zs_i hx hb hK hP hD hS 1 (f := fun k9 => nI ((sndI σ m9 i) k9)) rfl (by omega) (by decide) dX6_send_66 (fun H locs hP hD9 hS => ?_)
          rw [zupd] at hP
          rw [MX_s1] at hP
          have hP : va_P D vwCl (MX Y A (va_up (sndI σ m9 i) (9 + i) ((wdS σ) (zcw m9 i))) (recF hf hn σ) (recN hn) wt wn tmS cdS (wdS σ) sy gp (ddS σ) i0 i1 i2 i3 fo de) H := hP
          have hD : va_D FA (MX Y A (va_up (sndI σ m9 i) (9 + i) ((wdS σ) (zcw m9 i))) (recF hf hn σ) (recN hn) wt wn tmS cdS (wdS σ) sy gp (ddS σ) i0 i1 i2 i3 fo de) := MX_dd hD
          clear hD9
          refine lv_iload_n hx hb dX6_send_67 rfl (lv_at hl 1 rfl) ?_
          refine lv_aload_n hx hb dX6_send_68 rfl (lv_at hl 2 rfl) ?_
          refine va_get (D := D) (ci := 6) (v := .ref (A 1)) (C := RX6) (T := TX6) (N := 17) hx hb hts qX6_send_inX6 hown hK hP 0 rfl rfl 0 (by decide) (hts _ qX6_send_Cond_fieldLink_RX6_7_NestedCodesModel_d_I_) (fun _ h9 => h9) rfl dX6_send_69 ?_
          refine lv_bipush (v := (nI 9)) hx hb dX6_send_72 (by decide) ?_
          refine lv_iload_n hx hb dX6_send_74 rfl (lv_at hl 0 rfl) ?_
          refine zv_iadd hx hb (v := (nI (9 + i))) dX6_send_75 (nI_add _ _) ?_
          refine za_i hx hb hK hP 1 (f := fun k9 => nI ((va_up (sndI σ m9 i) (9 + i) ((wdS σ) (zcw m9 i))) k9)) (v := (nI (wdS σ (zcw m9 i)))) rfl (by omega) (by decide) dX6_send_76 (congrArg nI (zu_eq _ _ _)) ?_
          refine zc_r (va_runS (As := [.int (nI (wdS σ (zcw m9 i)))]) (rest := [.int (nI (sndN σ m9 i))]) ⟨hx, hb, hml, hown, hts⟩ (c_X6_ones l D Y  (wdS σ (zcw m9 i)) (Nat.lt_trans hwb (by decide))) (va_cwS 1 hts gX6_send_X6_ones rfl rfl rfl (by decide +kernel) (by rw [hR]; exact ⟨Nat.le_of_ble_eq_true rfl, Nat.le_of_ble_eq_true rfl⟩)) ⟨zB_blind, (zp_r (v := [.int (nI (wdS σ (zcw m9 i)))]) (fun k q h => absurd h (by simp)) hK hN)⟩ rfl rfl hl.1 rfl (lv_room (Nat.le_of_ble_eq_true rfl)) dX6_send_77 ⟨Nat.zero_le _, Nat.zero_le _⟩).run ?_
          have hp77 := popc_le (wdS σ (zcw m9 i))
          refine zv_iadd hx hb (v := (nI ((sndN σ m9 i) + (popc (wdS σ (zcw m9 i)))))) dX6_send_80 (nI_add _ _) ?_
          refine lv_istore_n (lv' := [(2, .int (nI ((sndN σ m9 i) + (popc (wdS σ (zcw m9 i)))))), (3, .int (nI i)), (0, .ref (A 0)), (1, .int (nI m9))]) hx hb dX6_send_81 rfl hl (by decide) rfl (fun ls hl => ?_)
          refine lv_iinc (v := (nI (i + 1))) (lv' := [(3, .int (nI (i + 1))), (2, .int (nI ((sndN σ m9 i) + (popc (wdS σ (zcw m9 i)))))), (0, .ref (A 0)), (1, .int (nI m9))]) hx hb dX6_send_82 hl (k := 1) rfl (zinc _) (by decide) rfl (fun ls hl => ?_)
          refine lv_goto (tgt := 32) hx hb dX6_send_85 (by decide) ?_
          have e9 : (va_up (sndI σ m9 i) (9 + i) ((wdS σ) (zcw m9 i))) = (sndI σ m9 (i + 1)) := sndI_up σ m9 i
          rw [e9] at hP
          clear e9
          have hP : va_P D vwCl (MX Y A (sndI σ m9 (i + 1)) (recF hf hn σ) (recN hn) wt wn tmS cdS (wdS σ) sy gp (ddS σ) i0 i1 i2 i3 fo de) H := hP
          have hD : va_D FA (MX Y A (sndI σ m9 (i + 1)) (recF hf hn σ) (recN hn) wt wn tmS cdS (wdS σ) sy gp (ddS σ) i0 i1 i2 i3 fo de) := MX_dd hD
          exact ih32 (i + 1) (by omega) (by omega) H locs hP hD hS ls (lv_sub hl [0, 1, 2, 3] rfl)
    have e9 : (va_up (clr σ) 8 m9) = (sndI σ m9 0) := sndI_0 σ m9
    rw [e9] at hP
    clear e9
    have hP : va_P D vwCl (MX Y A (sndI σ m9 0) (recF hf hn σ) (recN hn) wt wn tmS cdS (wdS σ) sy gp (ddS σ) i0 i1 i2 i3 fo de) H := hP
    have hD : va_D FA (MX Y A (sndI σ m9 0) (recF hf hn σ) (recN hn) wt wn tmS cdS (wdS σ) sy gp (ddS σ) i0 i1 i2 i3 fo de) := MX_dd hD
    exact L32 (σ 0 - 0 + 1) 0 (by omega) (Nat.lt_succ_self _) _ _ hP hD hS ls (lv_sub hl [0, 1, 2, 3] rfl)
  · exact absurd ⟨by rw [zt_n (by omega)]; omega, by rw [zt_n (by omega)]; omega⟩ c5
theorem qX6_flip_Cond_fieldLink_RX6_7_NestedCodesModel_d_I_ : Cond.fieldLink RX6 7 "NestedCodesModel" "d" "[I" ∈ wsX6_flip := by decide +kernel
theorem qX6_flip_inX6 : ∀ w ∈ wsX60, w ∈ wsX6_flip := by decide +kernel
set_option maxHeartbeats 4000000 in
set_option maxRecDepth 100000 in
theorem c_X6_flip_bad (l : Launch) (D : va_G) (Y : Nat → ClassId) (A : Nat → Nat) (σ : Nat → Nat) (hf : Nat → Nat) (hn : Nat) (wt : Nat → Nat) (wn : Nat) (sy : Nat → Nat) (gp : Nat → Nat) (i0 : Nat → Nat) (i1 : Nat → Nat) (i2 : Nat → Nat) (i3 : Nat → Nat) (fo : Int32) (de : Int32) (y : Int32) (x : Int32)  (kσ : zWF σ) (ksy : ∀ w9, w9 < 2 ^ (σ 2) → sy w9 = syS σ w9) (kgp : ∀ w9, w9 < 2 ^ (σ 2) → gp w9 = gpS σ w9) (hbad : ¬ ((0 ≤ (y).toInt ∧ (y).toInt < ((σ 0 : Nat) : Int)) ∧ 1 ≤ (x).toInt ∧ (x).toInt ≤ ((2 ^ (σ 2) - 1 : Nat) : Int))) : Met l yX6_flip wsX6_flip ({ frames := 2, cells := 0, slots := 0, locals := 43 } : Room) (va_Pc [.ref (A 0), .int (y), .int (x)] (zB D Y (MX Y A σ hf hn wt wn tmS cdS (wdS σ) sy gp (ddS σ) i0 i1 i2 i3 fo de))) (zR (.int (-1001))) 0 0 (fun _ => False) := by
  refine zr_of (cc := cX6_flip) (maxL := 3) (ret := (some .int)) (by decide) rfl (Nat.le_of_ble_eq_true rfl) ?_
  intro p e s m below meth c R args Q hR hx hb hml hr hlk hown hts hK hN hP hQ ls hl
  have hown : s.vm.findClass RX6 = some m.cls := hown
  have hl : lv_has ls 3 [(0, .ref (A 0)), (1, .int (y)), (2, .int (x))] := hl
  have kw := kσ
  obtain ⟨n3, n12, d1, d3, dn, b4, b10, gl, lm, sn, wl, wnz⟩ := kw
  have pb := zp_b b10
  have pk9 := zp_k d3
  have p2 := Nat.two_pow_pos (σ 2)
  refine lv_aload_n hx hb dX6_flip_0 rfl (lv_at hl 0 rfl) ?_
  refine lv_iload_n hx hb dX6_flip_1 rfl (lv_at hl 1 rfl) ?_
  refine zc_r (va_runV (As := [.int (y)]) (rest := []) ⟨hx, hb, hml, hown, hts⟩ (c_X6_isBlock l D Y A σ hf hn wt wn tmS cdS (wdS σ) sy gp (ddS σ) i0 i1 i2 i3 fo de y n12 (by omega)) (cwV 1 hts gX6_flip_X6_isBlock rfl rfl rfl (by decide +kernel) (by rw [hR]; exact ⟨Nat.le_of_ble_eq_true rfl, Nat.le_of_ble_eq_true rfl⟩)) ⟨zB_blind, va_recv hK hP (ci := 6) (q0 := 0) rfl rfl, zp_r hP hK hN⟩ rfl rfl hl.1 rfl (lv_room (Nat.le_of_ble_eq_true rfl)) dX6_flip_2 ⟨Nat.zero_le _, Nat.zero_le _⟩).run ?_
  refine zb_if_eq (tgt := 26)  hx hb dX6_flip_5 (by decide)  (fun c5 => ?_) (fun c5 => ?_)
  · refine lv_sipush (v := (-1001)) hx hb dX6_flip_26 (by decide) ?_
    exact zr_i hx hb hr hlk hQ dX6_flip_29 (rfl)
  · refine lv_iload_n hx hb dX6_flip_8 rfl (lv_at hl 2 rfl) ?_
    refine lv_iconst (v := (nI 1)) hx hb dX6_flip_9 (by decide) ?_
    refine lv_iconst (v := (nI 1)) hx hb dX6_flip_10 (by decide) ?_
    refine lv_aload_n hx hb dX6_flip_11 rfl (lv_at hl 0 rfl) ?_
    refine va_get (D := D) (ci := 6) (v := .ref (A 1)) (C := RX6) (T := TX6) (N := 17) hx hb hts qX6_flip_inX6 hown hK hP 0 rfl rfl 0 (by decide) (hts _ qX6_flip_Cond_fieldLink_RX6_7_NestedCodesModel_d_I_) (fun _ h9 => h9) rfl dX6_flip_12 ?_
    refine lv_iconst (v := (nI 2)) hx hb dX6_flip_15 (by decide) ?_
    refine za_i hx hb hK hP 1 (f := fun k9 => nI (σ k9)) (v := (nI (σ 2))) rfl (by omega) (by decide) dX6_flip_16 (rfl) ?_
    refine zv_ishl hx hb (v := (nI (2 ^ (σ 2)))) dX6_flip_17 (by rw [zShl (by omega) (by omega), Nat.one_mul]) ?_
    refine lv_iconst (v := (nI 1)) hx hb dX6_flip_18 (by decide) ?_
    refine zv_isub hx hb (v := (nI ((2 ^ (σ 2)) - 1))) dX6_flip_19 (pk_sub (by omega)) ?_
    refine zc_r (va_runS (As := [.int (x), .int (nI 1), .int (nI ((2 ^ (σ 2)) - 1))]) (rest := []) ⟨hx, hb, hml, hown, hts⟩ (c_X6_in l D Y  x ((nI 1)) ((nI ((2 ^ (σ 2)) - 1))) ) (va_cwS 3 hts gX6_flip_X6_in rfl rfl rfl (by decide +kernel) (by rw [hR]; exact ⟨Nat.le_of_ble_eq_true rfl, Nat.le_of_ble_eq_true rfl⟩)) ⟨zB_blind, (zp_r (v := [.int (x), .int (nI 1), .int (nI ((2 ^ (σ 2)) - 1))]) (fun k q h => absurd h (by simp)) hK hN)⟩ rfl rfl hl.1 rfl (lv_room (Nat.le_of_ble_eq_true rfl)) dX6_flip_20 ⟨Nat.zero_le _, Nat.zero_le _⟩).run ?_
    have h20a : ((nI 1)).toInt = _ := zt_n (by omega)
    have h20b : ((nI ((2 ^ (σ 2)) - 1))).toInt = _ := zt_n (by omega)
    refine zb_if_ne (tgt := 30)  hx hb dX6_flip_23 (by decide)  (fun c23 => ?_) (fun c23 => ?_)
    · exact absurd c23 (by omega)
    · refine lv_sipush (v := (-1001)) hx hb dX6_flip_26 (by decide) ?_
      exact zr_i hx hb hr hlk hQ dX6_flip_29 (rfl)
set_option maxHeartbeats 4000000 in
set_option maxRecDepth 100000 in
theorem c_X6_flip_lost (l : Launch) (D : va_G) (Y : Nat → ClassId) (A : Nat → Nat) (σ : Nat → Nat) (hf : Nat → Nat) (hn : Nat) (wt : Nat → Nat) (wn : Nat) (sy : Nat → Nat) (gp : Nat → Nat) (i0 : Nat → Nat) (i1 : Nat → Nat) (i2 : Nat → Nat) (i3 : Nat → Nat) (fo : Int32) (de : Int32) (j : Nat) (mk : Nat)  (kσ : zWF σ) (ksy : ∀ w9, w9 < 2 ^ (σ 2) → sy w9 = syS σ w9) (kgp : ∀ w9, w9 < 2 ^ (σ 2) → gp w9 = gpS σ w9) (hj : j < σ 0) (hm1 : 1 ≤ mk) (hm2 : mk ≤ 2 ^ (σ 2) - 1) (hls : zL (σ 7) j = 1) : Met l yX6_flip wsX6_flip ({ frames := 2, cells := 0, slots := 0, locals := 43 } : Room) (va_Pc [.ref (A 0), .int (nI j), .int (nI mk)] (zB D Y (MX Y A σ hf hn wt wn tmS cdS (wdS σ) sy gp (ddS σ) i0 i1 i2 i3 fo de))) (zR (.int (-1002))) 0 0 (fun _ => False) := by
  refine zr_of (cc := cX6_flip) (maxL := 3) (ret := (some .int)) (by decide) rfl (Nat.le_of_ble_eq_true rfl) ?_
  intro p e s m below meth c R args Q hR hx hb hml hr hlk hown hts hK hN hP hQ ls hl
  have hown : s.vm.findClass RX6 = some m.cls := hown
  have hl : lv_has ls 3 [(0, .ref (A 0)), (1, .int (nI j)), (2, .int (nI mk))] := hl
  have kw := kσ
  obtain ⟨n3, n12, d1, d3, dn, b4, b10, gl, lm, sn, wl, wnz⟩ := kw
  have pb := zp_b b10
  have pk9 := zp_k d3
  have p2 := Nat.two_pow_pos (σ 2)
  refine lv_aload_n hx hb dX6_flip_0 rfl (lv_at hl 0 rfl) ?_
  refine lv_iload_n hx hb dX6_flip_1 rfl (lv_at hl 1 rfl) ?_
  refine zc_r (va_runV (As := [.int (nI j)]) (rest := []) ⟨hx, hb, hml, hown, hts⟩ (c_X6_isBlock l D Y A σ hf hn wt wn tmS cdS (wdS σ) sy gp (ddS σ) i0 i1 i2 i3 fo de ((nI j)) n12 (by omega)) (cwV 1 hts gX6_flip_X6_isBlock rfl rfl rfl (by decide +kernel) (by rw [hR]; exact ⟨Nat.le_of_ble_eq_true rfl, Nat.le_of_ble_eq_true rfl⟩)) ⟨zB_blind, va_recv hK hP (ci := 6) (q0 := 0) rfl rfl, zp_r hP hK hN⟩ rfl rfl hl.1 rfl (lv_room (Nat.le_of_ble_eq_true rfl)) dX6_flip_2 ⟨Nat.zero_le _, Nat.zero_le _⟩).run ?_
  refine zb_if_eq (tgt := 26)  hx hb dX6_flip_5 (by decide)  (fun c5 => ?_) (fun c5 => ?_)
  · exact absurd ⟨by rw [zt_n (by omega)]; omega, by rw [zt_n (by omega)]; omega⟩ c5
  · refine lv_iload_n hx hb dX6_flip_8 rfl (lv_at hl 2 rfl) ?_
    refine lv_iconst (v := (nI 1)) hx hb dX6_flip_9 (by decide) ?_
    refine lv_iconst (v := (nI 1)) hx hb dX6_flip_10 (by decide) ?_
    refine lv_aload_n hx hb dX6_flip_11 rfl (lv_at hl 0 rfl) ?_
    refine va_get (D := D) (ci := 6) (v := .ref (A 1)) (C := RX6) (T := TX6) (N := 17) hx hb hts qX6_flip_inX6 hown hK hP 0 rfl rfl 0 (by decide) (hts _ qX6_flip_Cond_fieldLink_RX6_7_NestedCodesModel_d_I_) (fun _ h9 => h9) rfl dX6_flip_12 ?_
    refine lv_iconst (v := (nI 2)) hx hb dX6_flip_15 (by decide) ?_
    refine za_i hx hb hK hP 1 (f := fun k9 => nI (σ k9)) (v := (nI (σ 2))) rfl (by omega) (by decide) dX6_flip_16 (rfl) ?_
    refine zv_ishl hx hb (v := (nI (2 ^ (σ 2)))) dX6_flip_17 (by rw [zShl (by omega) (by omega), Nat.one_mul]) ?_
    refine lv_iconst (v := (nI 1)) hx hb dX6_flip_18 (by decide) ?_
    refine zv_isub hx hb (v := (nI ((2 ^ (σ 2)) - 1))) dX6_flip_19 (pk_sub (by omega)) ?_
    refine zc_r (va_runS (As := [.int (nI mk), .int (nI 1), .int (nI ((2 ^ (σ 2)) - 1))]) (rest := []) ⟨hx, hb, hml, hown, hts⟩ (c_X6_in l D Y  ((nI mk)) ((nI 1)) ((nI ((2 ^ (σ 2)) - 1))) ) (va_cwS 3 hts gX6_flip_X6_in rfl rfl rfl (by decide +kernel) (by rw [hR]; exact ⟨Nat.le_of_ble_eq_true rfl, Nat.le_of_ble_eq_true rfl⟩)) ⟨zB_blind, (zp_r (v := [.int (nI mk), .int (nI 1), .int (nI ((2 ^ (σ 2)) - 1))]) (fun k q h => absurd h (by simp)) hK hN)⟩ rfl rfl hl.1 rfl (lv_room (Nat.le_of_ble_eq_true rfl)) dX6_flip_20 ⟨Nat.zero_le _, Nat.zero_le _⟩).run ?_
    have h20v : ((nI mk)).toInt = _ := zt_n (by omega)
    have h20a : ((nI 1)).toInt = _ := zt_n (by omega)
    have h20b : ((nI ((2 ^ (σ 2)) - 1))).toInt = _ := zt_n (by omega)
    refine zb_if_ne (tgt := 30)  hx hb dX6_flip_23 (by decide)  (fun c23 => ?_) (fun c23 => ?_)
    · refine lv_aload_n hx hb dX6_flip_30 rfl (lv_at hl 0 rfl) ?_
      refine lv_iload_n hx hb dX6_flip_31 rfl (lv_at hl 1 rfl) ?_
      refine zc_r (va_runV (As := [.int (nI j)]) (rest := []) ⟨hx, hb, hml, hown, hts⟩ (c_X6_isLost l D Y A σ hf hn wt wn tmS cdS (wdS σ) sy gp (ddS σ) i0 i1 i2 i3 fo de j lm (by omega)) (cwV 1 hts gX6_flip_X6_isLost rfl rfl rfl (by decide +kernel) (by rw [hR]; exact ⟨Nat.le_of_ble_eq_true rfl, Nat.le_of_ble_eq_true rfl⟩)) ⟨zB_blind, va_recv hK hP (ci := 6) (q0 := 0) rfl rfl, zp_r hP hK hN⟩ rfl rfl hl.1 rfl (lv_room (Nat.le_of_ble_eq_true rfl)) dX6_flip_32 ⟨Nat.zero_le _, Nat.zero_le _⟩).run ?_
      refine zb_if_eq (tgt := 42)  hx hb dX6_flip_35 (by decide)  (fun c35 => ?_) (fun c35 => ?_)
      · exact absurd hls c35
      · refine lv_sipush (v := (-1002)) hx hb dX6_flip_38 (by decide) ?_
        exact zr_i hx hb hr hlk hQ dX6_flip_41 (rfl)
    · exact absurd c23 (by omega)
theorem qX6_flip_Cond_fieldLink_RX6_33_NestedCodesModel_gap_I_ : Cond.fieldLink RX6 33 "NestedCodesModel" "gap" "[I" ∈ wsX6_flip := by decide +kernel
set_option maxHeartbeats 4000000 in
set_option maxRecDepth 100000 in
theorem c_X6_flip (l : Launch) (D : va_G) (Y : Nat → ClassId) (A : Nat → Nat) (σ : Nat → Nat) (hf : Nat → Nat) (hn : Nat) (wt : Nat → Nat) (wn : Nat) (sy : Nat → Nat) (gp : Nat → Nat) (i0 : Nat → Nat) (i1 : Nat → Nat) (i2 : Nat → Nat) (i3 : Nat → Nat) (fo : Int32) (de : Int32) (j : Nat) (mk : Nat)  (kσ : zWF σ) (ksy : ∀ w9, w9 < 2 ^ (σ 2) → sy w9 = syS σ w9) (kgp : ∀ w9, w9 < 2 ^ (σ 2) → gp w9 = gpS σ w9) (khn : hn ≤ 6) (hj : j < σ 0) (hm1 : 1 ≤ mk) (hm2 : mk ≤ 2 ^ (σ 2) - 1) (hls : zL (σ 7) j = 0) : Met l yX6_flip wsX6_flip ({ frames := 2, cells := 0, slots := 0, locals := 43 } : Room) (va_Pc [.ref (A 0), .int (nI j), .int (nI mk)] (zBw D Y (MX Y A σ hf hn wt wn tmS cdS (wdS σ) sy gp (ddS σ) i0 i1 i2 i3 fo de))) (zW (some (.int (nI (faS (flpS σ j mk) j)))) D (MX Y A (flpS σ j mk) (recF hf hn σ) (recN hn) wt wn tmS cdS (wdS (flpS σ j mk)) sy gp (ddS (flpS σ j mk)) i0 i1 i2 i3 fo de) (zA (MX Y A σ hf hn wt wn tmS cdS (wdS σ) sy gp (ddS σ) i0 i1 i2 i3 fo de))) 0 0 (zA (MX Y A σ hf hn wt wn tmS cdS (wdS σ) sy gp (ddS σ) i0 i1 i2 i3 fo de)) := by
  refine zw_of (cc := cX6_flip) (maxL := 3) (ret := (some .int)) (by decide) rfl (Nat.le_of_ble_eq_true rfl) ?_
  intro p e s m below meth c R args Q FA hR hx hb hml hr hlk hown hts hK hN hQ hP hD hS ls hl
  have hown : s.vm.findClass RX6 = some m.cls := hown
  have hl : lv_has ls 3 [(0, .ref (A 0)), (1, .int (nI j)), (2, .int (nI mk))] := hl
  have hS := hS
  have kw := kσ
  obtain ⟨n3, n12, d1, d3, dn, b4, b10, gl, lm, sn, wl, wnz⟩ := kw
  have pb := zp_b b10
  have pk9 := zp_k d3
  have p2 := Nat.two_pow_pos (σ 2)
  suffices hgo : ∀ (H : Heap) (locs : List Loc), va_P D vwCl (MX Y A σ hf hn wt wn tmS cdS (wdS σ) sy gp (ddS σ) i0 i1 i2 i3 fo de) H → va_S FA s.heap H locs → W p l e R s m args below meth c H locs 0 0 Q (F0 m 0 ls []) from hgo _ _ hP hS
  clear hP hS
  intro H locs hP hS
  refine lv_aload_n hx hb dX6_flip_0 rfl (lv_at hl 0 rfl) ?_
  refine lv_iload_n hx hb dX6_flip_1 rfl (lv_at hl 1 rfl) ?_
  refine zc_r (va_runV (As := [.int (nI j)]) (rest := []) ⟨hx, hb, hml, hown, hts⟩ (c_X6_isBlock l D Y A σ hf hn wt wn tmS cdS (wdS σ) sy gp (ddS σ) i0 i1 i2 i3 fo de ((nI j)) n12 (by omega)) (cwV 1 hts gX6_flip_X6_isBlock rfl rfl rfl (by decide +kernel) (by rw [hR]; exact ⟨Nat.le_of_ble_eq_true rfl, Nat.le_of_ble_eq_true rfl⟩)) ⟨zB_blind, va_recv hK hP (ci := 6) (q0 := 0) rfl rfl, zp_r hP hK hN⟩ rfl rfl hl.1 rfl (lv_room (Nat.le_of_ble_eq_true rfl)) dX6_flip_2 ⟨Nat.zero_le _, Nat.zero_le _⟩).run ?_
  refine zb_if_eq (tgt := 26)  hx hb dX6_flip_5 (by decide)  (fun c5 => ?_) (fun c5 => ?_)
  · exact absurd ⟨by rw [zt_n (by omega)]; omega, by rw [zt_n (by omega)]; omega⟩ c5
  · refine lv_iload_n hx hb dX6_flip_8 rfl (lv_at hl 2 rfl) ?_
    refine lv_iconst (v := (nI 1)) hx hb dX6_flip_9 (by decide) ?_
    refine lv_iconst (v := (nI 1)) hx hb dX6_flip_10 (by decide) ?_
    refine lv_aload_n hx hb dX6_flip_11 rfl (lv_at hl 0 rfl) ?_
    refine va_get (D := D) (ci := 6) (v := .ref (A 1)) (C := RX6) (T := TX6) (N := 17) hx hb hts qX6_flip_inX6 hown hK hP 0 rfl rfl 0 (by decide) (hts _ qX6_flip_Cond_fieldLink_RX6_7_NestedCodesModel_d_I_) (fun _ h9 => h9) rfl dX6_flip_12 ?_
    refine lv_iconst (v := (nI 2)) hx hb dX6_flip_15 (by decide) ?_
    refine za_i hx hb hK hP 1 (f := fun k9 => nI (σ k9)) (v := (nI (σ 2))) rfl (by omega) (by decide) dX6_flip_16 (rfl) ?_
    refine zv_ishl hx hb (v := (nI (2 ^ (σ 2)))) dX6_flip_17 (by rw [zShl (by omega) (by omega), Nat.one_mul]) ?_
    refine lv_iconst (v := (nI 1)) hx hb dX6_flip_18 (by decide) ?_
    refine zv_isub hx hb (v := (nI ((2 ^ (σ 2)) - 1))) dX6_flip_19 (pk_sub (by omega)) ?_
    refine zc_r (va_runS (As := [.int (nI mk), .int (nI 1), .int (nI ((2 ^ (σ 2)) - 1))]) (rest := []) ⟨hx, hb, hml, hown, hts⟩ (c_X6_in l D Y  ((nI mk)) ((nI 1)) ((nI ((2 ^ (σ 2)) - 1))) ) (va_cwS 3 hts gX6_flip_X6_in rfl rfl rfl (by decide +kernel) (by rw [hR]; exact ⟨Nat.le_of_ble_eq_true rfl, Nat.le_of_ble_eq_true rfl⟩)) ⟨zB_blind, (zp_r (v := [.int (nI mk), .int (nI 1), .int (nI ((2 ^ (σ 2)) - 1))]) (fun k q h => absurd h (by simp)) hK hN)⟩ rfl rfl hl.1 rfl (lv_room (Nat.le_of_ble_eq_true rfl)) dX6_flip_20 ⟨Nat.zero_le _, Nat.zero_le _⟩).run ?_
    have h20v : ((nI mk)).toInt = _ := zt_n (by omega)
    have h20a : ((nI 1)).toInt = _ := zt_n (by omega)
    have h20b : ((nI ((2 ^ (σ 2)) - 1))).toInt = _ := zt_n (by omega)
    refine zb_if_ne (tgt := 30)  hx hb dX6_flip_23 (by decide)  (fun c23 => ?_) (fun c23 => ?_)
    · refine lv_aload_n hx hb dX6_flip_30 rfl (lv_at hl 0 rfl) ?_
      refine lv_iload_n hx hb dX6_flip_31 rfl (lv_at hl 1 rfl) ?_
      refine zc_r (va_runV (As := [.int (nI j)]) (rest := []) ⟨hx, hb, hml, hown, hts⟩ (c_X6_isLost l D Y A σ hf hn wt wn tmS cdS (wdS σ) sy gp (ddS σ) i0 i1 i2 i3 fo de j lm (by omega)) (cwV 1 hts gX6_flip_X6_isLost rfl rfl rfl (by decide +kernel) (by rw [hR]; exact ⟨Nat.le_of_ble_eq_true rfl, Nat.le_of_ble_eq_true rfl⟩)) ⟨zB_blind, va_recv hK hP (ci := 6) (q0 := 0) rfl rfl, zp_r hP hK hN⟩ rfl rfl hl.1 rfl (lv_room (Nat.le_of_ble_eq_true rfl)) dX6_flip_32 ⟨Nat.zero_le _, Nat.zero_le _⟩).run ?_
      refine zb_if_eq (tgt := 42)  hx hb dX6_flip_35 (by decide)  (fun c35 => ?_) (fun c35 => ?_)
      · refine lv_aload_n hx hb dX6_flip_42 rfl (lv_at hl 0 rfl) ?_
        refine zc_w (va_runV (As := []) (rest := []) ⟨hx, hb, hml, hown, hts⟩ (c_X6_records l D Y A σ hf hn wt wn tmS cdS (wdS σ) sy gp (ddS σ) i0 i1 i2 i3 fo de  khn) (cwV 0 hts gX6_flip_X6_records rfl rfl rfl (by decide +kernel) (by rw [hR]; exact ⟨Nat.le_of_ble_eq_true rfl, Nat.le_of_ble_eq_true rfl⟩)) ⟨zBw_blind, va_recv hK hP (ci := 6) (q0 := 0) rfl rfl, zp_w hP hD hK hN⟩ rfl rfl hl.1 rfl (lv_room (Nat.le_of_ble_eq_true rfl)) dX6_flip_43 ⟨Nat.zero_le _, Nat.zero_le _⟩).run hS (zA_of hD) (fun H locs hP hz hk hS => ?_)
        have hD : va_D FA (MX Y A σ (recF hf hn σ) (recN hn) wt wn tmS cdS (wdS σ) sy gp (ddS σ) i0 i1 i2 i3 fo de) := MX_dd hD
        refine lv_aload_n hx hb dX6_flip_46 rfl (lv_at hl 0 rfl) ?_
        refine va_get (D := D) (ci := 6) (v := .ref (A 1)) (C := RX6) (T := TX6) (N := 17) hx hb hts qX6_flip_inX6 hown hK hP 0 rfl rfl 0 (by decide) (hts _ qX6_flip_Cond_fieldLink_RX6_7_NestedCodesModel_d_I_) (fun _ h9 => h9) rfl dX6_flip_47 ?_
        refine lv_bipush (v := (nI 9)) hx hb dX6_flip_50 (by decide) ?_
        refine lv_iload_n hx hb dX6_flip_52 rfl (lv_at hl 1 rfl) ?_
        refine zv_iadd hx hb (v := (nI (9 + j))) dX6_flip_53 (nI_add _ _) ?_
        refine lv_dup2_11 hx hb dX6_flip_54 rfl rfl ?_
        refine za_i hx hb hK hP 1 (f := fun k9 => nI (σ k9)) (v := (nI (σ (9 + j)))) rfl (by omega) (by decide) dX6_flip_55 (rfl) ?_
        refine lv_iload_n hx hb dX6_flip_56 rfl (lv_at hl 2 rfl) ?_
        refine zv_ixor hx hb (v := (nI ((σ (9 + j)) ^^^ mk))) dX6_flip_57 (nx_xor _ _) ?_
        refine zs_i hx hb hK hP hD hS 1 (f := fun k9 => nI (σ k9)) rfl (by omega) (by decide) dX6_flip_58 (fun H locs hP hD9 hS => ?_)
        rw [zupd] at hP
        rw [MX_s1] at hP
        have hP : va_P D vwCl (MX Y A (va_up σ (9 + j) ((σ (9 + j)) ^^^ mk)) (recF hf hn σ) (recN hn) wt wn tmS cdS (wdS σ) sy gp (ddS σ) i0 i1 i2 i3 fo de) H := hP
        have hD : va_D FA (MX Y A (va_up σ (9 + j) ((σ (9 + j)) ^^^ mk)) (recF hf hn σ) (recN hn) wt wn tmS cdS (wdS σ) sy gp (ddS σ) i0 i1 i2 i3 fo de) := MX_dd hD
        clear hD9
        refine lv_aload_n hx hb dX6_flip_59 rfl (lv_at hl 0 rfl) ?_
        refine va_get (D := D) (ci := 6) (v := .ref (A 8)) (C := RX6) (T := TX6) (N := 17) hx hb hts qX6_flip_inX6 hown hK hP 0 rfl rfl 9 (by decide) (hts _ qX6_flip_Cond_fieldLink_RX6_33_NestedCodesModel_gap_I_) (fun _ h9 => h9) rfl dX6_flip_60 ?_
        refine lv_aload_n hx hb dX6_flip_63 rfl (lv_at hl 0 rfl) ?_
        refine va_get (D := D) (ci := 6) (v := .ref (A 1)) (C := RX6) (T := TX6) (N := 17) hx hb hts qX6_flip_inX6 hown hK hP 0 rfl rfl 0 (by decide) (hts _ qX6_flip_Cond_fieldLink_RX6_7_NestedCodesModel_d_I_) (fun _ h9 => h9) rfl dX6_flip_64 ?_
        refine lv_bipush (v := (nI 9)) hx hb dX6_flip_67 (by decide) ?_
        refine lv_iload_n hx hb dX6_flip_69 rfl (lv_at hl 1 rfl) ?_
        refine zv_iadd hx hb (v := (nI (9 + j))) dX6_flip_70 (nI_add _ _) ?_
        refine za_i hx hb hK hP 1 (f := fun k9 => nI ((va_up σ (9 + j) ((σ (9 + j)) ^^^ mk)) k9)) (v := (nI (σ (9 + j) ^^^ mk))) rfl (by omega) (by decide) dX6_flip_71 (congrArg nI (zu_eq _ _ _)) ?_
        have hxw : σ (9 + j) ^^^ mk < 2 ^ σ 2 := Nat.xor_lt_two_pow (wl j (by omega)) (by omega)
        refine za_i hx hb hK hP 8 (f := fun k9 => nI (gp k9)) (v := (nI (gpS σ (σ (9 + j) ^^^ mk)))) rfl (by omega) (by decide) dX6_flip_72 (congrArg nI (kgp _ hxw)) ?_
        exact zw_i hx hb hr hlk hQ hS dX6_flip_73 (by rw [fa_lost (σ := flpS σ j mk) (by rw [show flpS σ j mk 7 = σ 7 from flp_lo _ _ _ (by decide)]; exact hls), gp_same (flp_g σ j mk), show flpS σ j mk (9 + j) = σ (9 + j) ^^^ mk from zu_eq _ _ _]) ((by rw [wd_same (flp_g σ j mk), dd_same (flp_g σ j mk)]; exact hP))
      · exact absurd c35 (by omega)
    · exact absurd c23 (by omega)
set_option maxHeartbeats 4000000 in
set_option maxRecDepth 100000 in
theorem c_X6_lose_bad (l : Launch) (D : va_G) (Y : Nat → ClassId) (A : Nat → Nat) (σ : Nat → Nat) (hf : Nat → Nat) (hn : Nat) (wt : Nat → Nat) (wn : Nat) (sy : Nat → Nat) (gp : Nat → Nat) (i0 : Nat → Nat) (i1 : Nat → Nat) (i2 : Nat → Nat) (i3 : Nat → Nat) (fo : Int32) (de : Int32) (y : Int32) (x : Int32)  (kσ : zWF σ) (ksy : ∀ w9, w9 < 2 ^ (σ 2) → sy w9 = syS σ w9) (kgp : ∀ w9, w9 < 2 ^ (σ 2) → gp w9 = gpS σ w9) (hbad : ¬ ((0 ≤ (y).toInt ∧ (y).toInt < ((σ 0 : Nat) : Int)) ∧ 0 ≤ (x).toInt ∧ (x).toInt ≤ 1)) : Met l yX6_lose wsX6_lose ({ frames := 2, cells := 0, slots := 0, locals := 43 } : Room) (va_Pc [.ref (A 0), .int (y), .int (x)] (zB D Y (MX Y A σ hf hn wt wn tmS cdS (wdS σ) sy gp (ddS σ) i0 i1 i2 i3 fo de))) (zR (.int (-1001))) 0 0 (fun _ => False) := by
  refine zr_of (cc := cX6_lose) (maxL := 4) (ret := (some .int)) (by decide) rfl (Nat.le_of_ble_eq_true rfl) ?_
  intro p e s m below meth c R args Q hR hx hb hml hr hlk hown hts hK hN hP hQ ls hl
  have hown : s.vm.findClass RX6 = some m.cls := hown
  have hl : lv_has ls 4 [(0, .ref (A 0)), (1, .int (y)), (2, .int (x))] := hl
  have kw := kσ
  obtain ⟨n3, n12, d1, d3, dn, b4, b10, gl, lm, sn, wl, wnz⟩ := kw
  have pb := zp_b b10
  have pk9 := zp_k d3
  refine lv_aload_n hx hb dX6_lose_0 rfl (lv_at hl 0 rfl) ?_
  refine lv_iload_n hx hb dX6_lose_1 rfl (lv_at hl 1 rfl) ?_
  refine zc_r (va_runV (As := [.int (y)]) (rest := []) ⟨hx, hb, hml, hown, hts⟩ (c_X6_isBlock l D Y A σ hf hn wt wn tmS cdS (wdS σ) sy gp (ddS σ) i0 i1 i2 i3 fo de y n12 (by omega)) (cwV 1 hts gX6_lose_X6_isBlock rfl rfl rfl (by decide +kernel) (by rw [hR]; exact ⟨Nat.le_of_ble_eq_true rfl, Nat.le_of_ble_eq_true rfl⟩)) ⟨zB_blind, va_recv hK hP (ci := 6) (q0 := 0) rfl rfl, zp_r hP hK hN⟩ rfl rfl hl.1 rfl (lv_room (Nat.le_of_ble_eq_true rfl)) dX6_lose_2 ⟨Nat.zero_le _, Nat.zero_le _⟩).run ?_
  refine zb_if_eq (tgt := 17)  hx hb dX6_lose_5 (by decide)  (fun c5 => ?_) (fun c5 => ?_)
  · refine lv_sipush (v := (-1001)) hx hb dX6_lose_17 (by decide) ?_
    exact zr_i hx hb hr hlk hQ dX6_lose_20 (rfl)
  · refine lv_iload_n hx hb dX6_lose_8 rfl (lv_at hl 2 rfl) ?_
    refine lv_iconst (v := (nI 0)) hx hb dX6_lose_9 (by decide) ?_
    refine lv_iconst (v := (nI 1)) hx hb dX6_lose_10 (by decide) ?_
    refine zc_r (va_runS (As := [.int (x), .int (nI 0), .int (nI 1)]) (rest := []) ⟨hx, hb, hml, hown, hts⟩ (c_X6_in l D Y  x ((nI 0)) ((nI 1)) ) (va_cwS 3 hts gX6_lose_X6_in rfl rfl rfl (by decide +kernel) (by rw [hR]; exact ⟨Nat.le_of_ble_eq_true rfl, Nat.le_of_ble_eq_true rfl⟩)) ⟨zB_blind, (zp_r (v := [.int (x), .int (nI 0), .int (nI 1)]) (fun k q h => absurd h (by simp)) hK hN)⟩ rfl rfl hl.1 rfl (lv_room (Nat.le_of_ble_eq_true rfl)) dX6_lose_11 ⟨Nat.zero_le _, Nat.zero_le _⟩).run ?_
    have h11a : ((nI 0)).toInt = _ := zt_n (by omega)
    have h11b : ((nI 1)).toInt = _ := zt_n (by omega)
    refine zb_if_ne (tgt := 21)  hx hb dX6_lose_14 (by decide)  (fun c14 => ?_) (fun c14 => ?_)
    · exact absurd c14 (by omega)
    · refine lv_sipush (v := (-1001)) hx hb dX6_lose_17 (by decide) ?_
      exact zr_i hx hb hr hlk hQ dX6_lose_20 (rfl)
theorem qX6_lose_Cond_fieldLink_RX6_7_NestedCodesModel_d_I_ : Cond.fieldLink RX6 7 "NestedCodesModel" "d" "[I" ∈ wsX6_lose := by decide +kernel
theorem qX6_lose_inX6 : ∀ w ∈ wsX60, w ∈ wsX6_lose := by decide +kernel
set_option maxHeartbeats 4000000 in
set_option maxRecDepth 100000 in
theorem c_X6_lose (l : Launch) (D : va_G) (Y : Nat → ClassId) (A : Nat → Nat) (σ : Nat → Nat) (hf : Nat → Nat) (hn : Nat) (wt : Nat → Nat) (wn : Nat) (sy : Nat → Nat) (gp : Nat → Nat) (i0 : Nat → Nat) (i1 : Nat → Nat) (i2 : Nat → Nat) (i3 : Nat → Nat) (fo : Int32) (de : Int32) (j : Nat) (v9 : Nat)  (kσ : zWF σ) (ksy : ∀ w9, w9 < 2 ^ (σ 2) → sy w9 = syS σ w9) (kgp : ∀ w9, w9 < 2 ^ (σ 2) → gp w9 = gpS σ w9) (khn : hn ≤ 6) (hj : j < σ 0) (hv : v9 < 2) : Met l yX6_lose wsX6_lose ({ frames := 2, cells := 0, slots := 0, locals := 43 } : Room) (va_Pc [.ref (A 0), .int (nI j), .int (nI v9)] (zBw D Y (MX Y A σ hf hn wt wn tmS cdS (wdS σ) sy gp (ddS σ) i0 i1 i2 i3 fo de))) (zW (some (.int (nI (zL (σ 7) j)))) D (MX Y A (losS σ j v9) (recF hf hn σ) (recN hn) wt wn tmS cdS (wdS (losS σ j v9)) sy gp (ddS (losS σ j v9)) i0 i1 i2 i3 fo de) (zA (MX Y A σ hf hn wt wn tmS cdS (wdS σ) sy gp (ddS σ) i0 i1 i2 i3 fo de))) 0 0 (zA (MX Y A σ hf hn wt wn tmS cdS (wdS σ) sy gp (ddS σ) i0 i1 i2 i3 fo de)) := by
  refine zw_of (cc := cX6_lose) (maxL := 4) (ret := (some .int)) (by decide) rfl (Nat.le_of_ble_eq_true rfl) ?_
  intro p e s m below meth c R args Q FA hR hx hb hml hr hlk hown hts hK hN hQ hP hD hS ls hl
  have hown : s.vm.findClass RX6 = some m.cls := hown
  have hl : lv_has ls 4 [(0, .ref (A 0)), (1, .int (nI j)), (2, .int (nI v9))] := hl
  have hS := hS
  have kw := kσ
  obtain ⟨n3, n12, d1, d3, dn, b4, b10, gl, lm, sn, wl, wnz⟩ := kw
  have pb := zp_b b10
  have pk9 := zp_k d3
  suffices hgo : ∀ (H : Heap) (locs : List Loc), va_P D vwCl (MX Y A σ hf hn wt wn tmS cdS (wdS σ) sy gp (ddS σ) i0 i1 i2 i3 fo de) H → va_S FA s.heap H locs → W p l e R s m args below meth c H locs 0 0 Q (F0 m 0 ls []) from hgo _ _ hP hS
  clear hP hS
  intro H locs hP hS
  refine lv_aload_n hx hb dX6_lose_0 rfl (lv_at hl 0 rfl) ?_
  refine lv_iload_n hx hb dX6_lose_1 rfl (lv_at hl 1 rfl) ?_
  refine zc_r (va_runV (As := [.int (nI j)]) (rest := []) ⟨hx, hb, hml, hown, hts⟩ (c_X6_isBlock l D Y A σ hf hn wt wn tmS cdS (wdS σ) sy gp (ddS σ) i0 i1 i2 i3 fo de ((nI j)) n12 (by omega)) (cwV 1 hts gX6_lose_X6_isBlock rfl rfl rfl (by decide +kernel) (by rw [hR]; exact ⟨Nat.le_of_ble_eq_true rfl, Nat.le_of_ble_eq_true rfl⟩)) ⟨zB_blind, va_recv hK hP (ci := 6) (q0 := 0) rfl rfl, zp_r hP hK hN⟩ rfl rfl hl.1 rfl (lv_room (Nat.le_of_ble_eq_true rfl)) dX6_lose_2 ⟨Nat.zero_le _, Nat.zero_le _⟩).run ?_
  refine zb_if_eq (tgt := 17)  hx hb dX6_lose_5 (by decide)  (fun c5 => ?_) (fun c5 => ?_)
  · exact absurd ⟨by rw [zt_n (by omega)]; omega, by rw [zt_n (by omega)]; omega⟩ c5
  · refine lv_iload_n hx hb dX6_lose_8 rfl (lv_at hl 2 rfl) ?_
    refine lv_iconst (v := (nI 0)) hx hb dX6_lose_9 (by decide) ?_
    refine lv_iconst (v := (nI 1)) hx hb dX6_lose_10 (by decide) ?_
    refine zc_r (va_runS (As := [.int (nI v9), .int (nI 0), .int (nI 1)]) (rest := []) ⟨hx, hb, hml, hown, hts⟩ (c_X6_in l D Y  ((nI v9)) ((nI 0)) ((nI 1)) ) (va_cwS 3 hts gX6_lose_X6_in rfl rfl rfl (by decide +kernel) (by rw [hR]; exact ⟨Nat.le_of_ble_eq_true rfl, Nat.le_of_ble_eq_true rfl⟩)) ⟨zB_blind, (zp_r (v := [.int (nI v9), .int (nI 0), .int (nI 1)]) (fun k q h => absurd h (by simp)) hK hN)⟩ rfl rfl hl.1 rfl (lv_room (Nat.le_of_ble_eq_true rfl)) dX6_lose_11 ⟨Nat.zero_le _, Nat.zero_le _⟩).run ?_
    have h11v : ((nI v9)).toInt = _ := zt_n (by omega)
    have h11a : ((nI 0)).toInt = _ := zt_n (by omega)
    have h11b : ((nI 1)).toInt = _ := zt_n (by omega)
    refine zb_if_ne (tgt := 21)  hx hb dX6_lose_14 (by decide)  (fun c14 => ?_) (fun c14 => ?_)
    · refine lv_aload_n hx hb dX6_lose_21 rfl (lv_at hl 0 rfl) ?_
      refine zc_w (va_runV (As := []) (rest := []) ⟨hx, hb, hml, hown, hts⟩ (c_X6_records l D Y A σ hf hn wt wn tmS cdS (wdS σ) sy gp (ddS σ) i0 i1 i2 i3 fo de  khn) (cwV 0 hts gX6_lose_X6_records rfl rfl rfl (by decide +kernel) (by rw [hR]; exact ⟨Nat.le_of_ble_eq_true rfl, Nat.le_of_ble_eq_true rfl⟩)) ⟨zBw_blind, va_recv hK hP (ci := 6) (q0 := 0) rfl rfl, zp_w hP hD hK hN⟩ rfl rfl hl.1 rfl (lv_room (Nat.le_of_ble_eq_true rfl)) dX6_lose_22 ⟨Nat.zero_le _, Nat.zero_le _⟩).run hS (zA_of hD) (fun H locs hP hz hk hS => ?_)
      have hD : va_D FA (MX Y A σ (recF hf hn σ) (recN hn) wt wn tmS cdS (wdS σ) sy gp (ddS σ) i0 i1 i2 i3 fo de) := MX_dd hD
      refine lv_aload_n hx hb dX6_lose_25 rfl (lv_at hl 0 rfl) ?_
      refine va_get (D := D) (ci := 6) (v := .ref (A 1)) (C := RX6) (T := TX6) (N := 17) hx hb hts qX6_lose_inX6 hown hK hP 0 rfl rfl 0 (by decide) (hts _ qX6_lose_Cond_fieldLink_RX6_7_NestedCodesModel_d_I_) (fun _ h9 => h9) rfl dX6_lose_26 ?_
      refine lv_bipush (v := (nI 7)) hx hb dX6_lose_29 (by decide) ?_
      refine za_i hx hb hK hP 1 (f := fun k9 => nI (σ k9)) (v := (nI (σ 7))) rfl (by omega) (by decide) dX6_lose_31 (rfl) ?_
      refine lv_iload_n hx hb dX6_lose_32 rfl (lv_at hl 1 rfl) ?_
      refine zv_ishr hx hb (v := (nI ((σ 7) / 2 ^ j))) dX6_lose_33 (zShr (by omega) (by omega)) ?_
      refine lv_iconst (v := (nI 1)) hx hb dX6_lose_34 (by decide) ?_
      refine zv_iand hx hb (v := (nI (zL (σ 7) j))) dX6_lose_35 (znand1 _) ?_
      refine lv_istore_n (lv' := [(3, .int (nI (zL (σ 7) j))), (0, .ref (A 0)), (1, .int (nI j)), (2, .int (nI v9))]) hx hb dX6_lose_36 rfl hl (by decide) rfl (fun ls hl => ?_)
      refine lv_aload_n hx hb dX6_lose_37 rfl (lv_at hl 1 rfl) ?_
      refine va_get (D := D) (ci := 6) (v := .ref (A 1)) (C := RX6) (T := TX6) (N := 17) hx hb hts qX6_lose_inX6 hown hK hP 0 rfl rfl 0 (by decide) (hts _ qX6_lose_Cond_fieldLink_RX6_7_NestedCodesModel_d_I_) (fun _ h9 => h9) rfl dX6_lose_38 ?_
      refine lv_bipush (v := (nI 7)) hx hb dX6_lose_41 (by decide) ?_
      refine lv_aload_n hx hb dX6_lose_43 rfl (lv_at hl 1 rfl) ?_
      refine va_get (D := D) (ci := 6) (v := .ref (A 1)) (C := RX6) (T := TX6) (N := 17) hx hb hts qX6_lose_inX6 hown hK hP 0 rfl rfl 0 (by decide) (hts _ qX6_lose_Cond_fieldLink_RX6_7_NestedCodesModel_d_I_) (fun _ h9 => h9) rfl dX6_lose_44 ?_
      refine lv_bipush (v := (nI 7)) hx hb dX6_lose_47 (by decide) ?_
      refine za_i hx hb hK hP 1 (f := fun k9 => nI (σ k9)) (v := (nI (σ 7))) rfl (by omega) (by decide) dX6_lose_49 (rfl) ?_
      refine lv_iconst (v := (nI 1)) hx hb dX6_lose_50 (by decide) ?_
      refine lv_iload_n hx hb dX6_lose_51 rfl (lv_at hl 2 rfl) ?_
      have h2j : 2 ^ j ≤ 2 ^ 11 := Nat.pow_le_pow_right (by decide) (by omega)
      refine zv_ishl hx hb (v := (nI (2 ^ j))) dX6_lose_52 (by rw [zShl (by omega) (by omega), Nat.one_mul]) ?_
      refine lv_iconst (v := (-1)) hx hb dX6_lose_53 (by decide) ?_
      refine zv_ixor hx hb (v := (nI (2 ^ j) ^^^ (-1))) dX6_lose_54 (rfl) ?_
      refine zv_iand hx hb (v := (nI (losM (σ 7) j 0))) dX6_lose_55 (los_and (by omega) (by omega)) ?_
      refine lv_iload_n hx hb dX6_lose_56 rfl (lv_at hl 3 rfl) ?_
      refine lv_iload_n hx hb dX6_lose_57 rfl (lv_at hl 2 rfl) ?_
      have hv2 : v9 * 2 ^ j ≤ 1 * 2 ^ 11 := Nat.mul_le_mul (by omega) (Nat.pow_le_pow_right (by decide) (by omega))
      refine zv_ishl hx hb (v := (nI (v9 * 2 ^ j))) dX6_lose_58 (zShl (by omega) (by omega)) ?_
      refine zv_ior hx hb (v := (nI (losM (σ 7) j v9))) dX6_lose_59 (by rw [fa_or, los_or (by omega)]) ?_
      refine zs_i hx hb hK hP hD hS 1 (f := fun k9 => nI (σ k9)) rfl (by omega) (by decide) dX6_lose_60 (fun H locs hP hD9 hS => ?_)
      rw [zupd] at hP
      rw [MX_s1] at hP
      have hP : va_P D vwCl (MX Y A (va_up σ 7 (losM (σ 7) j v9)) (recF hf hn σ) (recN hn) wt wn tmS cdS (wdS σ) sy gp (ddS σ) i0 i1 i2 i3 fo de) H := hP
      have hD : va_D FA (MX Y A (va_up σ 7 (losM (σ 7) j v9)) (recF hf hn σ) (recN hn) wt wn tmS cdS (wdS σ) sy gp (ddS σ) i0 i1 i2 i3 fo de) := MX_dd hD
      clear hD9
      refine lv_iload_n hx hb dX6_lose_61 rfl (lv_at hl 0 rfl) ?_
      exact zw_i hx hb hr hlk hQ hS dX6_lose_62 (rfl) ((by rw [wd_same (los_g σ j v9), dd_same (los_g σ j v9)]; exact hP))
    · exact absurd c14 (by omega)
