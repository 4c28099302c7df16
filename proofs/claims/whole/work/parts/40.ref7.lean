theorem qX6_isRight_Cond_fieldLink_RX6_115_NestedCodesModel_found_I_ : Cond.fieldLink RX6 115 "NestedCodesModel" "found" "I" ∈ wsX6_isRight := by decide +kernel
theorem qX6_isRight_inX6 : ∀ w ∈ wsX60, w ∈ wsX6_isRight := by decide +kernel
theorem qX6_isRight_Cond_fieldLink_RX6_7_NestedCodesModel_d_I_ : Cond.fieldLink RX6 7 "NestedCodesModel" "d" "[I" ∈ wsX6_isRight := by decide +kernel
set_option maxHeartbeats 4000000 in
set_option maxRecDepth 100000 in
theorem c_X6_isRight (l : Launch) (D : va_G) (Y : Nat → ClassId) (A : Nat → Nat) (σ : Nat → Nat) (hf : Nat → Nat) (hn : Nat) (wt : Nat → Nat) (wn : Nat) (sy : Nat → Nat) (gp : Nat → Nat) (i0 : Nat → Nat) (i1 : Nat → Nat) (i2 : Nat → Nat) (i3 : Nat → Nat) (fo : Int32) (de : Int32)   (kσ : zWF σ) (ksy : ∀ w9, w9 < 2 ^ (σ 2) → sy w9 = syS σ w9) (kgp : ∀ w9, w9 < 2 ^ (σ 2) → gp w9 = gpS σ w9) : Met l yX6_isRight wsX6_isRight ({ frames := 4, cells := 0, slots := 0, locals := 88 } : Room) (va_Pc [.ref (A 0)] (zBw D Y (MX Y A σ hf hn wt wn tmS cdS (wdS σ) sy gp (ddS σ) i0 i1 i2 i3 fo de))) (zW (some (.int (zq (((barS σ : Nat) : Int) < scS σ (σ 8))))) D (MX Y A σ hf hn wt wn tmS cdS (wdS σ) sy gp (ddS σ) (ag0 σ i0) (ag1 σ i1) (ag2 σ i2) (insI (trS σ) i3 (σ 0)) (decodeV σ) (decTV σ)) (zA (MX Y A σ hf hn wt wn tmS cdS (wdS σ) sy gp (ddS σ) i0 i1 i2 i3 fo de))) 0 0 (zA (MX Y A σ hf hn wt wn tmS cdS (wdS σ) sy gp (ddS σ) i0 i1 i2 i3 fo de)) := by
  refine zw_of (cc := cX6_isRight) (maxL := 1) (ret := (some .boolean)) (by decide) rfl (Nat.le_of_ble_eq_true rfl) ?_
  intro p e s m below meth c R args Q FA hR hx hb hml hr hlk hown hts hK hN hQ hP hD hS ls hl
  have hown : s.vm.findClass RX6 = some m.cls := hown
  have hl : lv_has ls 1 [(0, .ref (A 0))] := hl
  have hS := hS
  have kw := kσ
  obtain ⟨n3, n12, d1, d3, dn, b4, b10, gl, lm, sn, wl, wnz⟩ := kw
  have pb := zp_b b10
  have pk9 := zp_k d3
  suffices hgo : ∀ (H : Heap) (locs : List Loc), va_P D vwCl (MX Y A σ hf hn wt wn tmS cdS (wdS σ) sy gp (ddS σ) i0 i1 i2 i3 fo de) H → va_S FA s.heap H locs → W p l e R s m args below meth c H locs 0 0 Q (F0 m 0 ls []) from hgo _ _ hP hS
  clear hP hS
  intro H locs hP hS
  refine lv_aload_n hx hb dX6_isRight_0 rfl (lv_at hl 0 rfl) ?_
  refine zc_w (va_runV (As := []) (rest := []) ⟨hx, hb, hml, hown, hts⟩ (c_X6_decodes l D Y A σ hf hn wt wn sy gp i0 i1 i2 i3 fo de  kσ ksy kgp) (cwV 0 hts gX6_isRight_X6_decodes rfl rfl rfl (by decide +kernel) (by rw [hR]; exact ⟨Nat.le_of_ble_eq_true rfl, Nat.le_of_ble_eq_true rfl⟩)) ⟨zBw_blind, va_recv hK hP (ci := 6) (q0 := 0) rfl rfl, zp_w hP hD hK hN⟩ rfl rfl hl.1 rfl (lv_room (Nat.le_of_ble_eq_true rfl)) dX6_isRight_1 ⟨Nat.zero_le _, Nat.zero_le _⟩).run hS (zA_of hD) (fun H locs hP hz hk hS => ?_)
  have hD : va_D FA (MX Y A σ hf hn wt wn tmS cdS (wdS σ) sy gp (ddS σ) (ag0 σ i0) (ag1 σ i1) (ag2 σ i2) (insI (trS σ) i3 (σ 0)) (decodeV σ) (decTV σ)) := MX_dd hD
  refine lv_aload_n hx hb dX6_isRight_4 rfl (lv_at hl 0 rfl) ?_
  refine va_get (D := D) (ci := 6) (v := .int (decodeV σ)) (C := RX6) (T := TX6) (N := 17) hx hb hts qX6_isRight_inX6 hown hK hP 0 rfl rfl 15 (by decide) (hts _ qX6_isRight_Cond_fieldLink_RX6_115_NestedCodesModel_found_I_) (fun _ h9 => h9) rfl dX6_isRight_5 ?_
  refine lv_aload_n hx hb dX6_isRight_8 rfl (lv_at hl 0 rfl) ?_
  refine va_get (D := D) (ci := 6) (v := .ref (A 1)) (C := RX6) (T := TX6) (N := 17) hx hb hts qX6_isRight_inX6 hown hK hP 0 rfl rfl 0 (by decide) (hts _ qX6_isRight_Cond_fieldLink_RX6_7_NestedCodesModel_d_I_) (fun _ h9 => h9) rfl dX6_isRight_9 ?_
  refine lv_bipush (v := (nI 8)) hx hb dX6_isRight_12 (by decide) ?_
  refine za_i hx hb hK hP 1 (f := fun k9 => nI (σ k9)) (v := (nI (σ 8))) rfl (by omega) (by decide) dX6_isRight_14 (rfl) ?_
  have J23 : W p l e R s m args below meth c H locs 0 0 Q (F0 m 23 ls [.int (zq (((barS σ : Nat) : Int) < scS σ (σ 8)))]) := by
    exact zw_z hx hb hr hlk hQ hS dX6_isRight_23 (rfl) (by first | exact zq_or _ | decide) (hP)
  refine zz_icmp_ne (tgt := 22) (a := (decodeV σ).toInt) (b := (((σ 8 : Nat)) : Int)) hx hb dX6_isRight_15 (by decide) (rfl) (zt_n (by omega)) (fun c15 => ?_) (fun c15 => ?_)
  · refine lv_iconst (v := (nI 0)) hx hb dX6_isRight_22 (by decide) ?_
    refine zt_i (v := (zq (((barS σ : Nat) : Int) < scS σ (σ 8)))) (by first | exact zq_nt ((right_iff kσ).mp (by omega)) | exact zq_nf (fun h => absurd ((right_iff kσ).mpr h) (by omega))) ?_
    exact J23
  · refine lv_iconst (v := (nI 1)) hx hb dX6_isRight_18 (by decide) ?_
    refine lv_goto (tgt := 23) hx hb dX6_isRight_19 (by decide) ?_
    refine zt_i (v := (zq (((barS σ : Nat) : Int) < scS σ (σ 8)))) (by first | exact zq_nt ((right_iff kσ).mp (by omega)) | exact zq_nf (fun h => absurd ((right_iff kσ).mpr h) (by omega))) ?_
    exact J23
set_option maxHeartbeats 4000000 in
set_option maxRecDepth 100000 in
theorem c_X6_sendCascade_not (l : Launch) (D : va_G) (Y : Nat → ClassId) (A : Nat → Nat) (σ : Nat → Nat) (hf : Nat → Nat) (hn : Nat) (wt : Nat → Nat) (wn : Nat) (sy : Nat → Nat) (gp : Nat → Nat) (i0 : Nat → Nat) (i1 : Nat → Nat) (i2 : Nat → Nat) (i3 : Nat → Nat) (fo : Int32) (de : Int32)   (kσ : zWF σ) (ksy : ∀ w9, w9 < 2 ^ (σ 2) → sy w9 = syS σ w9) (kgp : ∀ w9, w9 < 2 ^ (σ 2) → gp w9 = gpS σ w9) (hlm : nMs σ ≤ lawM σ) : Met l yX6_sendCascade wsX6_sendCascade ({ frames := 5, cells := 0, slots := 0, locals := 108 } : Room) (va_Pc [.ref (A 0)] (zBw D Y (MX Y A σ hf hn wt wn tmS cdS (wdS σ) sy gp (ddS σ) i0 i1 i2 i3 fo de))) (zW (some (.int (-1002))) D (MX Y A σ hf hn wt wn tmS cdS (wdS σ) sy gp (ddS σ) (ag0 σ i0) (ag1 σ i1) (ag2 σ i2) (insI (trS σ) i3 (σ 0)) (decodeV σ) (decTV σ)) (zA (MX Y A σ hf hn wt wn tmS cdS (wdS σ) sy gp (ddS σ) i0 i1 i2 i3 fo de))) 0 0 (zA (MX Y A σ hf hn wt wn tmS cdS (wdS σ) sy gp (ddS σ) i0 i1 i2 i3 fo de)) := by
  refine zw_of (cc := cX6_sendCascade) (maxL := 7) (ret := (some .int)) (by decide) rfl (Nat.le_of_ble_eq_true rfl) ?_
  intro p e s m below meth c R args Q FA hR hx hb hml hr hlk hown hts hK hN hQ hP hD hS ls hl
  have hown : s.vm.findClass RX6 = some m.cls := hown
  have hl : lv_has ls 7 [(0, .ref (A 0))] := hl
  have hS := hS
  have kw := kσ
  obtain ⟨n3, n12, d1, d3, dn, b4, b10, gl, lm, sn, wl, wnz⟩ := kw
  have pb := zp_b b10
  have pk9 := zp_k d3
  suffices hgo : ∀ (H : Heap) (locs : List Loc), va_P D vwCl (MX Y A σ hf hn wt wn tmS cdS (wdS σ) sy gp (ddS σ) i0 i1 i2 i3 fo de) H → va_S FA s.heap H locs → W p l e R s m args below meth c H locs 0 0 Q (F0 m 0 ls []) from hgo _ _ hP hS
  clear hP hS
  intro H locs hP hS
  refine lv_aload_n hx hb dX6_sendCascade_0 rfl (lv_at hl 0 rfl) ?_
  refine zc_w (va_runV (As := []) (rest := []) ⟨hx, hb, hml, hown, hts⟩ (c_X6_decode l D Y A σ hf hn wt wn sy gp i0 i1 i2 i3 fo de  kσ ksy kgp) (cwV 0 hts gX6_sendCascade_X6_decode rfl rfl rfl (by decide +kernel) (by rw [hR]; exact ⟨Nat.le_of_ble_eq_true rfl, Nat.le_of_ble_eq_true rfl⟩)) ⟨zBw_blind, va_recv hK hP (ci := 6) (q0 := 0) rfl rfl, zp_w hP hD hK hN⟩ rfl rfl hl.1 rfl (lv_room (Nat.le_of_ble_eq_true rfl)) dX6_sendCascade_1 ⟨Nat.zero_le _, Nat.zero_le _⟩).run hS (zA_of hD) (fun H locs hP hz hk hS => ?_)
  have hD : va_D FA (MX Y A σ hf hn wt wn tmS cdS (wdS σ) sy gp (ddS σ) (ag0 σ i0) (ag1 σ i1) (ag2 σ i2) (insI (trS σ) i3 (σ 0)) (decodeV σ) (decTV σ)) := MX_dd hD
  refine zt_i (v := (-1004)) (if_neg (by omega)) ?_
  refine lv_istore_n (lv' := [(1, .int (-1004)), (0, .ref (A 0))]) hx hb dX6_sendCascade_4 rfl hl (by decide) rfl (fun ls hl => ?_)
  refine lv_iload_n hx hb dX6_sendCascade_5 rfl (lv_at hl 0 rfl) ?_
  refine zz_if_ge (tgt := 13) (a := -1004) hx hb dX6_sendCascade_6 (by decide) (by decide) (fun c6 => ?_) (fun c6 => ?_)
  · exact absurd c6 (by omega)
  · refine lv_sipush (v := (-1002)) hx hb dX6_sendCascade_9 (by decide) ?_
    exact zw_i hx hb hr hlk hQ hS dX6_sendCascade_12 (rfl) (hP)
theorem qX6_sendCascade_Cond_fieldLink_RX6_7_NestedCodesModel_d_I_ : Cond.fieldLink RX6 7 "NestedCodesModel" "d" "[I" ∈ wsX6_sendCascade := by decide +kernel
theorem qX6_sendCascade_inX6 : ∀ w ∈ wsX60, w ∈ wsX6_sendCascade := by decide +kernel
theorem qX6_sendCascade_Cond_fieldLink_RX6_27_NestedCodesModel_word_I_ : Cond.fieldLink RX6 27 "NestedCodesModel" "word" "[I" ∈ wsX6_sendCascade := by decide +kernel
theorem qX6_sendCascade_Cond_fieldLink_RX6_23_NestedCodesModel_code_B_ : Cond.fieldLink RX6 23 "NestedCodesModel" "code" "[B" ∈ wsX6_sendCascade := by decide +kernel
set_option maxHeartbeats 4000000 in
set_option maxRecDepth 100000 in
theorem c_X6_sendCascade (l : Launch) (D : va_G) (Y : Nat → ClassId) (A : Nat → Nat) (σ : Nat → Nat) (hf : Nat → Nat) (hn : Nat) (wt : Nat → Nat) (wn : Nat) (sy : Nat → Nat) (gp : Nat → Nat) (i0 : Nat → Nat) (i1 : Nat → Nat) (i2 : Nat → Nat) (i3 : Nat → Nat) (fo : Int32) (de : Int32)   (kσ : zWF σ) (ksy : ∀ w9, w9 < 2 ^ (σ 2) → sy w9 = syS σ w9) (kgp : ∀ w9, w9 < 2 ^ (σ 2) → gp w9 = gpS σ w9) (khn : hn ≤ 6) (hlm : lawM σ < nMs σ) : Met l yX6_sendCascade wsX6_sendCascade ({ frames := 5, cells := 0, slots := 0, locals := 108 } : Room) (va_Pc [.ref (A 0)] (zBw D Y (MX Y A σ hf hn wt wn tmS cdS (wdS σ) sy gp (ddS σ) i0 i1 i2 i3 fo de))) (zW (some (.int (nI (casN σ (lawM σ) (σ 0))))) D (MX Y A (casI σ (lawM σ) (σ 0)) (recF hf hn σ) (recN hn) wt wn tmS cdS (wdS (casI σ (lawM σ) (σ 0))) sy gp (ddS (casI σ (lawM σ) (σ 0))) (ag0 σ i0) (ag1 σ i1) (ag2 σ i2) (insI (trS σ) i3 (σ 0)) (decodeV σ) (decTV σ)) (zA (MX Y A σ hf hn wt wn tmS cdS (wdS σ) sy gp (ddS σ) i0 i1 i2 i3 fo de))) 0 0 (zA (MX Y A σ hf hn wt wn tmS cdS (wdS σ) sy gp (ddS σ) i0 i1 i2 i3 fo de)) := by
  refine zw_of (cc := cX6_sendCascade) (maxL := 7) (ret := (some .int)) (by decide) rfl (Nat.le_of_ble_eq_true rfl) ?_
  intro p e s m below meth c R args Q FA hR hx hb hml hr hlk hown hts hK hN hQ hP hD hS ls hl
  have hown : s.vm.findClass RX6 = some m.cls := hown
  have hl : lv_has ls 7 [(0, .ref (A 0))] := hl
  have hS := hS
  have kw := kσ
  obtain ⟨n3, n12, d1, d3, dn, b4, b10, gl, lm, sn, wl, wnz⟩ := kw
  have pb := zp_b b10
  have pk9 := zp_k d3
  suffices hgo : ∀ (H : Heap) (locs : List Loc), va_P D vwCl (MX Y A σ hf hn wt wn tmS cdS (wdS σ) sy gp (ddS σ) i0 i1 i2 i3 fo de) H → va_S FA s.heap H locs → W p l e R s m args below meth c H locs 0 0 Q (F0 m 0 ls []) from hgo _ _ hP hS
  clear hP hS
  intro H locs hP hS
  have hlm2 : lawM σ < 2 ^ (4 * σ 1) := hlm
  refine lv_aload_n hx hb dX6_sendCascade_0 rfl (lv_at hl 0 rfl) ?_
  refine zc_w (va_runV (As := []) (rest := []) ⟨hx, hb, hml, hown, hts⟩ (c_X6_decode l D Y A σ hf hn wt wn sy gp i0 i1 i2 i3 fo de  kσ ksy kgp) (cwV 0 hts gX6_sendCascade_X6_decode rfl rfl rfl (by decide +kernel) (by rw [hR]; exact ⟨Nat.le_of_ble_eq_true rfl, Nat.le_of_ble_eq_true rfl⟩)) ⟨zBw_blind, va_recv hK hP (ci := 6) (q0 := 0) rfl rfl, zp_w hP hD hK hN⟩ rfl rfl hl.1 rfl (lv_room (Nat.le_of_ble_eq_true rfl)) dX6_sendCascade_1 ⟨Nat.zero_le _, Nat.zero_le _⟩).run hS (zA_of hD) (fun H locs hP hz hk hS => ?_)
  have hD : va_D FA (MX Y A σ hf hn wt wn tmS cdS (wdS σ) sy gp (ddS σ) (ag0 σ i0) (ag1 σ i1) (ag2 σ i2) (insI (trS σ) i3 (σ 0)) (decodeV σ) (decTV σ)) := MX_dd hD
  refine zt_i (v := (nI (lawM σ))) (if_pos hlm) ?_
  refine lv_istore_n (lv' := [(1, .int (nI (lawM σ))), (0, .ref (A 0))]) hx hb dX6_sendCascade_4 rfl hl (by decide) rfl (fun ls hl => ?_)
  refine lv_iload_n hx hb dX6_sendCascade_5 rfl (lv_at hl 0 rfl) ?_
  refine zn_if_ge (tgt := 13)  hx hb dX6_sendCascade_6 (by decide) (by omega) (fun c6 => ?_) (fun c6 => ?_)
  · refine lv_aload_n hx hb dX6_sendCascade_13 rfl (lv_at hl 1 rfl) ?_
    refine zc_w (va_runV (As := []) (rest := []) ⟨hx, hb, hml, hown, hts⟩ (c_X6_records l D Y A σ hf hn wt wn tmS cdS (wdS σ) sy gp (ddS σ) (ag0 σ i0) (ag1 σ i1) (ag2 σ i2) (insI (trS σ) i3 (σ 0)) (decodeV σ) (decTV σ)  khn) (cwV 0 hts gX6_sendCascade_X6_records rfl rfl rfl (by decide +kernel) (by rw [hR]; exact ⟨Nat.le_of_ble_eq_true rfl, Nat.le_of_ble_eq_true rfl⟩)) ⟨zBw_blind, va_recv hK hP (ci := 6) (q0 := 0) rfl rfl, zp_w hP hD hK hN⟩ rfl rfl hl.1 rfl (lv_room (Nat.le_of_ble_eq_true rfl)) dX6_sendCascade_14 ⟨Nat.zero_le _, Nat.zero_le _⟩).run hS (zA_of hD) (fun H locs hP hz hk hS => ?_)
    have hD : va_D FA (MX Y A σ (recF hf hn σ) (recN hn) wt wn tmS cdS (wdS σ) sy gp (ddS σ) (ag0 σ i0) (ag1 σ i1) (ag2 σ i2) (insI (trS σ) i3 (σ 0)) (decodeV σ) (decTV σ)) := MX_dd hD
    refine lv_aload_n hx hb dX6_sendCascade_17 rfl (lv_at hl 1 rfl) ?_
    refine va_get (D := D) (ci := 6) (v := .ref (A 1)) (C := RX6) (T := TX6) (N := 17) hx hb hts qX6_sendCascade_inX6 hown hK hP 0 rfl rfl 0 (by decide) (hts _ qX6_sendCascade_Cond_fieldLink_RX6_7_NestedCodesModel_d_I_) (fun _ h9 => h9) rfl dX6_sendCascade_18 ?_
    refine lv_bipush (v := (nI 8)) hx hb dX6_sendCascade_21 (by decide) ?_
    refine lv_iload_n hx hb dX6_sendCascade_23 rfl (lv_at hl 0 rfl) ?_
    refine zs_i hx hb hK hP hD hS 1 (f := fun k9 => nI (σ k9)) rfl (by omega) (by decide) dX6_sendCascade_24 (fun H locs hP hD9 hS => ?_)
    rw [zupd] at hP
    rw [MX_s1] at hP
    have hP : va_P D vwCl (MX Y A (va_up σ 8 (lawM σ)) (recF hf hn σ) (recN hn) wt wn tmS cdS (wdS σ) sy gp (ddS σ) (ag0 σ i0) (ag1 σ i1) (ag2 σ i2) (insI (trS σ) i3 (σ 0)) (decodeV σ) (decTV σ)) H := hP
    have hD : va_D FA (MX Y A (va_up σ 8 (lawM σ)) (recF hf hn σ) (recN hn) wt wn tmS cdS (wdS σ) sy gp (ddS σ) (ag0 σ i0) (ag1 σ i1) (ag2 σ i2) (insI (trS σ) i3 (σ 0)) (decodeV σ) (decTV σ)) := MX_dd hD
    clear hD9
    refine lv_iconst (v := (nI 0)) hx hb dX6_sendCascade_25 (by decide) ?_
    refine lv_istore_n (lv' := [(2, .int (nI 0)), (1, .int (nI (lawM σ))), (0, .ref (A 0))]) hx hb dX6_sendCascade_26 rfl hl (by decide) rfl (fun ls hl => ?_)
    refine lv_iconst (v := (nI 0)) hx hb dX6_sendCascade_27 (by decide) ?_
    refine lv_istore_n (lv' := [(3, .int (nI 0)), (2, .int (nI 0)), (1, .int (nI (lawM σ))), (0, .ref (A 0))]) hx hb dX6_sendCascade_28 rfl hl (by decide) rfl (fun ls hl => ?_)
    have L29 : ∀ (n9 : Nat) (i : Nat) (hi : i ≤ σ 0), σ 0 - i < n9 → ∀ (H : Heap) (locs : List Loc), va_P D vwCl (MX Y A (casI σ (lawM σ) i) (recF hf hn σ) (recN hn) wt wn tmS cdS (wdS σ) sy gp (ddS σ) (ag0 σ i0) (ag1 σ i1) (ag2 σ i2) (insI (trS σ) i3 (σ 0)) (decodeV σ) (decTV σ)) H → va_D FA (MX Y A (casI σ (lawM σ) i) (recF hf hn σ) (recN hn) wt wn tmS cdS (wdS σ) sy gp (ddS σ) (ag0 σ i0) (ag1 σ i1) (ag2 σ i2) (insI (trS σ) i3 (σ 0)) (decodeV σ) (decTV σ)) → va_S FA s.heap H locs → ∀ ls : Array Slot, lv_has ls 7 [(3, .int (nI i)), (2, .int (nI (casN σ (lawM σ) i))), (1, .int (nI (lawM σ))), (0, .ref (A 0))] → W p l e R s m args below meth c H locs 0 0 Q (F0 m 29 ls []) := by
      intro n9
      induction n9 with
      | zero => intro i hi hn9; exact absurd hn9 (Nat.not_lt_zero _)
      | succ n9 ih9 =>
        have ih29 := ih9
        clear ih9
        intro i hi hn9 H locs hP hD hS ls hl
        have hsl := casN_le σ (lawM σ) i
        have hrw := rotW_lt (σ 2) (σ (9 + i) ^^^ wdS σ (zcw (lawM σ) i))
        have hpr := popc_le (rotW (σ 2) (σ (9 + i) ^^^ wdS σ (zcw (lawM σ) i)))
        have hwb := zwd_b kσ (zcw (lawM σ) i)
        have hwc := zwd_1024 kσ (zcw (lawM σ) i)
        refine lv_iload_n hx hb dX6_sendCascade_29 rfl (lv_at hl 0 rfl) ?_
        refine lv_aload_n hx hb dX6_sendCascade_30 rfl (lv_at hl 3 rfl) ?_
        refine va_get (D := D) (ci := 6) (v := .ref (A 1)) (C := RX6) (T := TX6) (N := 17) hx hb hts qX6_sendCascade_inX6 hown hK hP 0 rfl rfl 0 (by decide) (hts _ qX6_sendCascade_Cond_fieldLink_RX6_7_NestedCodesModel_d_I_) (fun _ h9 => h9) rfl dX6_sendCascade_31 ?_
        refine lv_iconst (v := (nI 0)) hx hb dX6_sendCascade_34 (by decide) ?_
        refine za_i hx hb hK hP 1 (f := fun k9 => nI ((casI σ (lawM σ) i) k9)) (v := (nI (σ 0))) rfl (by omega) (by decide) dX6_sendCascade_35 (congrArg nI (casI_out σ (lawM σ) i (by omega))) ?_
        refine zn_icmp_ge (tgt := 128)  hx hb dX6_sendCascade_36 (by decide) (by omega) (by omega) (fun c36 => ?_) (fun c36 => ?_)
        · obtain rfl : i = σ 0 := by omega
          refine lv_iload_n hx hb dX6_sendCascade_128 rfl (lv_at hl 1 rfl) ?_
          exact zw_i hx hb hr hlk hQ hS dX6_sendCascade_129 (rfl) ((by rw [wd_same (cas_g σ (lawM σ) (σ 0)), dd_same (cas_g σ (lawM σ) (σ 0))]; exact hP))
        · have hxw : (σ (9 + i) ^^^ wdS σ (zcw (lawM σ) i)) < 2 ^ σ 2 := Nat.xor_lt_two_pow (wl i (by omega)) hwb
          have hxa : (σ (9 + i) ^^^ wdS σ (zcw (lawM σ) i)) < 1024 := Nat.lt_of_lt_of_le hxw pb
          refine lv_aload_n hx hb dX6_sendCascade_39 rfl (lv_at hl 3 rfl) ?_
          refine va_get (D := D) (ci := 6) (v := .ref (A 6)) (C := RX6) (T := TX6) (N := 17) hx hb hts qX6_sendCascade_inX6 hown hK hP 0 rfl rfl 7 (by decide) (hts _ qX6_sendCascade_Cond_fieldLink_RX6_27_NestedCodesModel_word_I_) (fun _ h9 => h9) rfl dX6_sendCascade_40 ?_
          refine lv_aload_n hx hb dX6_sendCascade_43 rfl (lv_at hl 3 rfl) ?_
          refine va_get (D := D) (ci := 6) (v := .ref (A 5)) (C := RX6) (T := TX6) (N := 17) hx hb hts qX6_sendCascade_inX6 hown hK hP 0 rfl rfl 6 (by decide) (hts _ qX6_sendCascade_Cond_fieldLink_RX6_23_NestedCodesModel_code_B_) (fun _ h9 => h9) rfl dX6_sendCascade_44 ?_
          refine lv_bipush (v := (nI 12)) hx hb dX6_sendCascade_47 (by decide) ?_
          refine lv_iload_n hx hb dX6_sendCascade_49 rfl (lv_at hl 2 rfl) ?_
          refine zv_imul hx hb (v := (nI (12 * (lawM σ)))) dX6_sendCascade_50 (pk_mul _ _) ?_
          refine lv_iload_n hx hb dX6_sendCascade_51 rfl (lv_at hl 0 rfl) ?_
          refine zv_iadd hx hb (v := (nI ((12 * (lawM σ)) + i))) dX6_sendCascade_52 (nI_add _ _) ?_
          refine za_b hx hb hK hP 5 (f := fun k9 => nI (cdS k9)) (v := (nI (zcw (lawM σ) i))) rfl (by omega) (by decide) dX6_sendCascade_53 (congrArg nI (cdS_at (lawM σ) (by omega))) ?_
          refine za_i hx hb hK hP 6 (f := fun k9 => nI ((wdS σ) k9)) (v := (nI ((wdS σ) (zcw (lawM σ) i)))) rfl (zcw_lt (by omega) (by omega)) (by decide) dX6_sendCascade_54 (rfl) ?_
          refine lv_istore (lv' := [(4, .int (nI ((wdS σ) (zcw (lawM σ) i)))), (3, .int (nI i)), (2, .int (nI (casN σ (lawM σ) i))), (1, .int (nI (lawM σ))), (0, .ref (A 0))]) hx hb dX6_sendCascade_55 hl (by decide) rfl (fun ls hl => ?_)
          refine lv_aload_n hx hb dX6_sendCascade_57 rfl (lv_at hl 4 rfl) ?_
          refine va_get (D := D) (ci := 6) (v := .ref (A 1)) (C := RX6) (T := TX6) (N := 17) hx hb hts qX6_sendCascade_inX6 hown hK hP 0 rfl rfl 0 (by decide) (hts _ qX6_sendCascade_Cond_fieldLink_RX6_7_NestedCodesModel_d_I_) (fun _ h9 => h9) rfl dX6_sendCascade_58 ?_
          refine lv_bipush (v := (nI 9)) hx hb dX6_sendCascade_61 (by decide) ?_
          refine lv_iload_n hx hb dX6_sendCascade_63 rfl (lv_at hl 1 rfl) ?_
          refine zv_iadd hx hb (v := (nI (9 + i))) dX6_sendCascade_64 (nI_add _ _) ?_
          refine za_i hx hb hK hP 1 (f := fun k9 => nI ((casI σ (lawM σ) i) k9)) (v := (nI (σ (9 + i)))) rfl (by omega) (by decide) dX6_sendCascade_65 (congrArg nI (casI_out σ (lawM σ) i (by omega))) ?_
          refine lv_iload hx hb dX6_sendCascade_66 (lv_at hl 0 rfl) ?_
          refine zv_ixor hx hb (v := (nI ((σ (9 + i)) ^^^ ((wdS σ) (zcw (lawM σ) i))))) dX6_sendCascade_68 (nx_xor _ _) ?_
          refine lv_istore (lv' := [(5, .int (nI ((σ (9 + i)) ^^^ ((wdS σ) (zcw (lawM σ) i))))), (4, .int (nI ((wdS σ) (zcw (lawM σ) i)))), (3, .int (nI i)), (2, .int (nI (casN σ (lawM σ) i))), (1, .int (nI (lawM σ))), (0, .ref (A 0))]) hx hb dX6_sendCascade_69 hl (by decide) rfl (fun ls hl => ?_)
          refine lv_iload hx hb dX6_sendCascade_71 (lv_at hl 0 rfl) ?_
          refine lv_iconst (v := (nI 1)) hx hb dX6_sendCascade_73 (by decide) ?_
          refine zv_ishl hx hb (v := (nI (((σ (9 + i)) ^^^ ((wdS σ) (zcw (lawM σ) i))) * 2 ^ 1))) dX6_sendCascade_74 (zShl (by omega) (by omega)) ?_
          refine lv_iconst (v := (nI 1)) hx hb dX6_sendCascade_75 (by decide) ?_
          refine lv_aload_n hx hb dX6_sendCascade_76 rfl (lv_at hl 5 rfl) ?_
          refine va_get (D := D) (ci := 6) (v := .ref (A 1)) (C := RX6) (T := TX6) (N := 17) hx hb hts qX6_sendCascade_inX6 hown hK hP 0 rfl rfl 0 (by decide) (hts _ qX6_sendCascade_Cond_fieldLink_RX6_7_NestedCodesModel_d_I_) (fun _ h9 => h9) rfl dX6_sendCascade_77 ?_
          refine lv_iconst (v := (nI 2)) hx hb dX6_sendCascade_80 (by decide) ?_
          refine za_i hx hb hK hP 1 (f := fun k9 => nI ((casI σ (lawM σ) i) k9)) (v := (nI (σ 2))) rfl (by omega) (by decide) dX6_sendCascade_81 (congrArg nI (casI_out σ (lawM σ) i (by omega))) ?_
          refine zv_ishl hx hb (v := (nI (2 ^ (σ 2)))) dX6_sendCascade_82 (by rw [zShl (by omega) (by omega), Nat.one_mul]) ?_
          refine lv_iconst (v := (nI 1)) hx hb dX6_sendCascade_83 (by decide) ?_
          refine zv_isub hx hb (v := (nI ((2 ^ (σ 2)) - 1))) dX6_sendCascade_84 (pk_sub (by omega)) ?_
          refine zv_iand hx hb (v := (nI ((((σ (9 + i)) ^^^ ((wdS σ) (zcw (lawM σ) i))) * 2 ^ 1) &&& ((2 ^ (σ 2)) - 1)))) dX6_sendCascade_85 (nx_and _ _) ?_
          refine lv_iload hx hb dX6_sendCascade_86 (lv_at hl 0 rfl) ?_
          refine lv_aload_n hx hb dX6_sendCascade_88 rfl (lv_at hl 5 rfl) ?_
          refine va_get (D := D) (ci := 6) (v := .ref (A 1)) (C := RX6) (T := TX6) (N := 17) hx hb hts qX6_sendCascade_inX6 hown hK hP 0 rfl rfl 0 (by decide) (hts _ qX6_sendCascade_Cond_fieldLink_RX6_7_NestedCodesModel_d_I_) (fun _ h9 => h9) rfl dX6_sendCascade_89 ?_
          refine lv_iconst (v := (nI 2)) hx hb dX6_sendCascade_92 (by decide) ?_
          refine za_i hx hb hK hP 1 (f := fun k9 => nI ((casI σ (lawM σ) i) k9)) (v := (nI (σ 2))) rfl (by omega) (by decide) dX6_sendCascade_93 (congrArg nI (casI_out σ (lawM σ) i (by omega))) ?_
          refine lv_iconst (v := (nI 1)) hx hb dX6_sendCascade_94 (by decide) ?_
          refine zv_isub hx hb (v := (nI ((σ 2) - 1))) dX6_sendCascade_95 (pk_sub (by omega)) ?_
          refine zv_ishr hx hb (v := (nI (((σ (9 + i)) ^^^ ((wdS σ) (zcw (lawM σ) i))) / 2 ^ ((σ 2) - 1)))) dX6_sendCascade_96 (zShr (by omega) (by omega)) ?_
          refine zv_ior hx hb (v := (nI (rotW (σ 2) (σ (9 + i) ^^^ wdS σ (zcw (lawM σ) i))))) dX6_sendCascade_97 (by rw [fa_or, rot_ok9 (by omega) hxw]) ?_
          refine lv_istore (lv' := [(6, .int (nI (rotW (σ 2) (σ (9 + i) ^^^ wdS σ (zcw (lawM σ) i))))), (5, .int (nI ((σ (9 + i)) ^^^ ((wdS σ) (zcw (lawM σ) i))))), (4, .int (nI ((wdS σ) (zcw (lawM σ) i)))), (3, .int (nI i)), (2, .int (nI (casN σ (lawM σ) i))), (1, .int (nI (lawM σ))), (0, .ref (A 0))]) hx hb dX6_sendCascade_98 hl (by decide) rfl (fun ls hl => ?_)
          refine lv_aload_n hx hb dX6_sendCascade_100 rfl (lv_at hl 6 rfl) ?_
          refine va_get (D := D) (ci := 6) (v := .ref (A 1)) (C := RX6) (T := TX6) (N := 17) hx hb hts qX6_sendCascade_inX6 hown hK hP 0 rfl rfl 0 (by decide) (hts _ qX6_sendCascade_Cond_fieldLink_RX6_7_NestedCodesModel_d_I_) (fun _ h9 => h9) rfl dX6_sendCascade_101 ?_
          refine lv_bipush (v := (nI 9)) hx hb dX6_sendCascade_104 (by decide) ?_
          refine lv_iload_n hx hb dX6_sendCascade_106 rfl (lv_at hl 3 rfl) ?_
          refine zv_iadd hx hb (v := (nI (9 + i))) dX6_sendCascade_107 (nI_add _ _) ?_
          refine lv_iload hx hb dX6_sendCascade_108 (lv_at hl 2 rfl) ?_
          refine lv_iload hx hb dX6_sendCascade_110 (lv_at hl 0 rfl) ?_
          refine zv_ixor hx hb (v := (nI (((wdS σ) (zcw (lawM σ) i)) ^^^ (rotW (σ 2) (σ (9 + i) ^^^ wdS σ (zcw (lawM σ) i)))))) dX6_sendCascade_112 (nx_xor _ _) ?_
          refine zs_i hx hb hK hP hD hS 1 (f := fun k9 => nI ((casI σ (lawM σ) i) k9)) rfl (by omega) (by decide) dX6_sendCascade_113 (fun H locs hP hD9 hS => ?_)
          rw [zupd] at hP
          rw [MX_s1] at hP
          have hP : va_P D vwCl (MX Y A (va_up (casI σ (lawM σ) i) (9 + i) (((wdS σ) (zcw (lawM σ) i)) ^^^ (rotW (σ 2) (σ (9 + i) ^^^ wdS σ (zcw (lawM σ) i))))) (recF hf hn σ) (recN hn) wt wn tmS cdS (wdS σ) sy gp (ddS σ) (ag0 σ i0) (ag1 σ i1) (ag2 σ i2) (insI (trS σ) i3 (σ 0)) (decodeV σ) (decTV σ)) H := hP
          have hD : va_D FA (MX Y A (va_up (casI σ (lawM σ) i) (9 + i) (((wdS σ) (zcw (lawM σ) i)) ^^^ (rotW (σ 2) (σ (9 + i) ^^^ wdS σ (zcw (lawM σ) i))))) (recF hf hn σ) (recN hn) wt wn tmS cdS (wdS σ) sy gp (ddS σ) (ag0 σ i0) (ag1 σ i1) (ag2 σ i2) (insI (trS σ) i3 (σ 0)) (decodeV σ) (decTV σ)) := MX_dd hD
          clear hD9
          refine lv_iload_n hx hb dX6_sendCascade_114 rfl (lv_at hl 4 rfl) ?_
          refine lv_iload hx hb dX6_sendCascade_115 (lv_at hl 0 rfl) ?_
          refine zc_r (va_runS (As := [.int (nI (rotW (σ 2) (σ (9 + i) ^^^ wdS σ (zcw (lawM σ) i))))]) (rest := [.int (nI (casN σ (lawM σ) i))]) ⟨hx, hb, hml, hown, hts⟩ (c_X6_ones l D Y  (rotW (σ 2) (σ (9 + i) ^^^ wdS σ (zcw (lawM σ) i))) (Nat.lt_trans (Nat.lt_of_lt_of_le hrw pb) (by decide))) (va_cwS 1 hts gX6_sendCascade_X6_ones rfl rfl rfl (by decide +kernel) (by rw [hR]; exact ⟨Nat.le_of_ble_eq_true rfl, Nat.le_of_ble_eq_true rfl⟩)) ⟨zB_blind, (zp_r (v := [.int (nI (rotW (σ 2) (σ (9 + i) ^^^ wdS σ (zcw (lawM σ) i))))]) (fun k q h => absurd h (by simp)) hK hN)⟩ rfl rfl hl.1 rfl (lv_room (Nat.le_of_ble_eq_true rfl)) dX6_sendCascade_117 ⟨Nat.zero_le _, Nat.zero_le _⟩).run ?_
          have hp117 := popc_le (rotW (σ 2) (σ (9 + i) ^^^ wdS σ (zcw (lawM σ) i)))
          refine zv_iadd hx hb (v := (nI ((casN σ (lawM σ) i) + (popc (rotW (σ 2) (σ (9 + i) ^^^ wdS σ (zcw (lawM σ) i))))))) dX6_sendCascade_120 (nI_add _ _) ?_
          refine lv_istore_n (lv' := [(2, .int (nI ((casN σ (lawM σ) i) + (popc (rotW (σ 2) (σ (9 + i) ^^^ wdS σ (zcw (lawM σ) i))))))), (6, .int (nI (rotW (σ 2) (σ (9 + i) ^^^ wdS σ (zcw (lawM σ) i))))), (5, .int (nI ((σ (9 + i)) ^^^ ((wdS σ) (zcw (lawM σ) i))))), (4, .int (nI ((wdS σ) (zcw (lawM σ) i)))), (3, .int (nI i)), (1, .int (nI (lawM σ))), (0, .ref (A 0))]) hx hb dX6_sendCascade_121 rfl hl (by decide) rfl (fun ls hl => ?_)
          refine lv_iinc (v := (nI (i + 1))) (lv' := [(3, .int (nI (i + 1))), (2, .int (nI ((casN σ (lawM σ) i) + (popc (rotW (σ 2) (σ (9 + i) ^^^ wdS σ (zcw (lawM σ) i))))))), (6, .int (nI (rotW (σ 2) (σ (9 + i) ^^^ wdS σ (zcw (lawM σ) i))))), (5, .int (nI ((σ (9 + i)) ^^^ ((wdS σ) (zcw (lawM σ) i))))), (4, .int (nI ((wdS σ) (zcw (lawM σ) i)))), (1, .int (nI (lawM σ))), (0, .ref (A 0))]) hx hb dX6_sendCascade_122 hl (k := 4) rfl (zinc _) (by decide) rfl (fun ls hl => ?_)
          refine lv_goto (tgt := 29) hx hb dX6_sendCascade_125 (by decide) ?_
          have e9 : (va_up (casI σ (lawM σ) i) (9 + i) (((wdS σ) (zcw (lawM σ) i)) ^^^ (rotW (σ 2) (σ (9 + i) ^^^ wdS σ (zcw (lawM σ) i))))) = (casI σ (lawM σ) (i + 1)) := casI_up σ (lawM σ) i
          rw [e9] at hP
          clear e9
          have hP : va_P D vwCl (MX Y A (casI σ (lawM σ) (i + 1)) (recF hf hn σ) (recN hn) wt wn tmS cdS (wdS σ) sy gp (ddS σ) (ag0 σ i0) (ag1 σ i1) (ag2 σ i2) (insI (trS σ) i3 (σ 0)) (decodeV σ) (decTV σ)) H := hP
          have hD : va_D FA (MX Y A (casI σ (lawM σ) (i + 1)) (recF hf hn σ) (recN hn) wt wn tmS cdS (wdS σ) sy gp (ddS σ) (ag0 σ i0) (ag1 σ i1) (ag2 σ i2) (insI (trS σ) i3 (σ 0)) (decodeV σ) (decTV σ)) := MX_dd hD
          exact ih29 (i + 1) (by omega) (by omega) H locs hP hD hS ls (lv_sub hl [0, 1, 5, 6] rfl)
    have e9 : (va_up σ 8 (lawM σ)) = (casI σ (lawM σ) 0) := casI_0 σ (lawM σ)
    rw [e9] at hP
    clear e9
    have hP : va_P D vwCl (MX Y A (casI σ (lawM σ) 0) (recF hf hn σ) (recN hn) wt wn tmS cdS (wdS σ) sy gp (ddS σ) (ag0 σ i0) (ag1 σ i1) (ag2 σ i2) (insI (trS σ) i3 (σ 0)) (decodeV σ) (decTV σ)) H := hP
    have hD : va_D FA (MX Y A (casI σ (lawM σ) 0) (recF hf hn σ) (recN hn) wt wn tmS cdS (wdS σ) sy gp (ddS σ) (ag0 σ i0) (ag1 σ i1) (ag2 σ i2) (insI (trS σ) i3 (σ 0)) (decodeV σ) (decTV σ)) := MX_dd hD
    exact L29 (σ 0 - 0 + 1) 0 (by omega) (Nat.lt_succ_self _) _ _ hP hD hS ls (lv_sub hl [0, 1, 2, 3] rfl)
  · exact absurd c6 (by omega)
