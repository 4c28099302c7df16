theorem qX6_isRight_Cond_fieldLink_RX6_115_NestedCodesModel_found_I_ : Cond.fieldLink RX6 115 "NestedCodesModel" "found" "I" ∈ wsX6_isRight := by decide +kernel
theorem qX6_isRight_inX6 : ∀ w ∈ wsX60, w ∈ wsX6_isRight := by decide +kernel
theorem qX6_isRight_Cond_fieldLink_RX6_7_NestedCodesModel_d_I_ : Cond.fieldLink RX6 7 "NestedCodesModel" "d" "[I" ∈ wsX6_isRight := by decide +kernel
set_option maxHeartbeats 4000000 in
set_option maxRecDepth 100000 in
theorem c_X6_isRight (l : Launch) (D : va_G) (Y : Nat → ClassId) (A : Nat → Nat) (σ : Nat → Nat) (hf : Nat → Nat) (hn : Nat) (wt : Nat → Nat) (wn : Nat) (sy : Nat → Nat) (gp : Nat → Nat) (i0 : Nat → Nat) (i1 : Nat → Nat) (i2 : Nat → Nat) (i3 : Nat → Nat) (fo : Int32) (de : Int32)   (kσ : zWF σ) (ksy : ∀ w9, w9 < 2 ^ (σ 2) → sy w9 = syS σ w9) (kgp : ∀ w9, w9 < 2 ^ (σ 2) → gp w9 = gpS σ w9) : Met l yX6_isRight wsX6_isRight ({ frames := 4, cells := 0, slots := 0, locals := 88 } : Room) (va_Pc [.ref (A 0)] (zBw D Y (MX Y A σ hf hn wt wn tmS cdS (wdS σ) sy gp (ddS σ) i0 i1 i2 i3 fo de))) (zW (some (.int (zq (((barS σ : Nat) : Int) < scS σ (σ 8))))) D (MX Y A σ hf hn wt wn tmS cdS (wdS σ) sy gp (ddS σ) (ag0 σ i0) (ag1 σ i1) (ag2 σ i2) (insI (trS σ) i3 (σ 0)) (decodeV σ) (decTV σ)) (zA (MX Y A σ hf hn wt wn tmS cdS (wdS σ) sy gp (ddS σ) i0 i1 i2 i3 fo de))) 0 0 (zA (MX Y A σ hf hn wt wn tmS cdS (wdS σ) sy gp (ddS σ) i0 i1 i2 i3 fo de)) := by
  refine zw_of (cc := cX6_isRight) (maxL := 1) (ret := (some .boolean)) (by decide) rfl (Nat.le_of_ble_eq_true rfl) ?_
  intro p e s m below meth c R args Q FA hR hx hb hml hr hlk hown hts hK hN hQ hP hD hS ls hl
  have hown : s.vm.findClass RX6 = some m.cls := hown
  have hl : lv_has ls 1 [(0, .ref (A 0))] := hl
  have hS := hS
  have kw := kσ
  obtain ⟨n3, n12, d1, d3, dn, b4, b10, gl, lm, sn, wl, wnz⟩ := kw
  have pb := zp_b b10
  have pk9 := zp_k d3
  suffices hgo : ∀ (H : Heap) (locs : List Loc), va_P D vwCl (MX Y A σ hf hn wt wn tmS cdS (wdS σ) sy gp (ddS σ) i0 i1 i2 i3 fo de) H → va_S FA s.heap H locs → W p l e R s m args below meth c H locs 0 0 Q (F0 m 0 ls []) from hgo _ _ hP hS
  clear hP hS
  intro H locs hP hS
  refine lv_aload_n hx hb dX6_isRight_0 rfl (lv_at hl 0 rfl) ?_
  refine zc_w (va_runV (As := []) (rest := []) ⟨hx, hb, hml, hown, hts⟩ (c_X6_decodes l D Y A σ hf hn wt wn sy gp i0 i1 i2 i3 fo de  kσ ksy kgp) (cwV 0 hts gX6_isRight_X6_decodes rfl rfl rfl (by decide +kernel) (by rw [hR]; exact ⟨Nat.le_of_ble_eq_true rfl, Nat.le_of_ble_eq_true rfl⟩)) ⟨zBw_blind, va_recv hK hP (ci := 6) (q0 := 0) rfl rfl, zp_w hP hD hK hN⟩ rfl rfl hl.1 rfl (lv_room (Nat.le_of_ble_eq_true rfl)) dX6_isRight_1 ⟨Nat.zero_le _, Nat.zero_le _⟩).run hS (zA_of hD) (fun H locs hP hz hk hS => ?_)
  have hD : va_D FA (MX Y A σ hf hn wt wn tmS cdS (wdS σ) sy gp (ddS σ) (ag0 σ i0) (ag1 σ i1) (ag2 σ i2) (insI (trS σ) i3 (σ 0)) (decodeV σ) (decTV σ)) := MX_dd hD
  refine lv_aload_n hx hb dX6_isRight_4 rfl (lv_at hl 0 rfl) ?_
  refine va_get (D := D) (ci := 6) (v := .int (decodeV σ)) (C := RX6) (T := TX6) (N := 17) hx hb hts qX6_isRight_inX6 hown hK hP 0 rfl rfl 15 (by decide) (hts _ qX6_isRight_Cond_fieldLink_RX6_115_NestedCodesModel_found_I_) (fun _ h9 => h9) rfl dX6_isRight_5 ?_
  refine lv_aload_n hx hb dX6_isRight_8 rfl (lv_at hl 0 rfl) ?_
  refine va_get (D := D) (ci := 6) (v := .ref (A 1)) (C := RX6) (T := TX6) (N := 17) hx hb hts qX6_isRight_inX6 hown hK hP 0 rfl rfl 0 (by decide) (hts _ qX6_isRight_Cond_fieldLink_RX6_7_NestedCodesModel_d_I_) (fun _ h9 => h9) rfl dX6_isRight_9 ?_
  refine lv_bipush (v := (nI 8)) hx hb dX6_isRight_12 (by decide) ?_
  refine za_i hx hb hK hP 1 (f := fun k9 => nI (σ k9)) (v := (nI (σ 8))) rfl (by omega) (by decide) dX6_isRight_14 (rfl) ?_
  have J23 : W p l e R s m args below meth c H locs 0 0 Q (F0 m 23 ls [.int (zq (((barS σ : Nat) : Int) < scS σ (σ 8)))]) := by
    exact zw_z hx hb hr hlk hQ hS dX6_isRight_23 (rfl) (by first | exact zq_or _ | decide) (hP)
  refine zz_icmp_ne (tgt := 22) (a := (decodeV σ).toInt) (b := (((σ 8 : Nat)) : Int)) hx hb dX6_isRight_15 (by decide) (rfl) (zt_n (by omega)) (fun c15 => ?_) (fun c15 => ?_)
  · refine lv_iconst (v := (nI 0)) hx hb dX6_isRight_22 (by decide) ?_
    refine zt_i (v := (zq (((barS σ : Nat) : Int) < scS σ (σ 8)))) (by first | exact zq_nt ((right_iff kσ).mp (by omega)) | exact zq_nf (fun h => absurd ((right_iff kσ).mpr h) (by omega))) ?_
    exact J23
  · refine lv_iconst (v := (nI 1)) hx hb dX6_isRight_18 (by decide) ?_
    refine lv_goto (tgt := 23) hx hb dX6_isRight_19 (by decide) ?_
    refine zt_i (v := (zq (((barS σ : Nat) : Int) < scS σ (σ 8)))) (by first | exact zq_nt ((right_iff kσ).mp (by omega)) | exact zq_nf (fun h => absurd ((right_iff kσ).mpr h) (by omega))) ?_
    exact J23
set_option maxHeartbeats 4000000 in
set_option maxRecDepth 100000 in
theorem c_X6_sendCascade_not (l : Launch) (D : va_G) (Y : Nat → ClassId) (A : Nat → Nat) (σ : Nat → Nat) (hf : Nat → Nat) (hn : Nat) (wt : Nat → Nat) (wn : Nat) (sy : Nat → Nat) (gp : Nat → Nat) (i0 : Nat → Nat) (i1 : Nat → Nat) (i2 : Nat → Nat) (i3 : Nat → Nat) (fo : Int32) (de : Int32)   (kσ : zWF σ) (ksy : ∀ w9, w9 < 2 ^ (σ 2) → sy w9 = syS σ w9) (kgp : ∀ w9, w9 < 2 ^ (σ 2) → gp w9 = gpS σ w9) (hlm : nMs σ ≤ lawM σ) : Met l yX6_sendCascade wsX6_sendCascade ({ frames := 5, cells := 0, slots := 0, locals := 108 } : Room) (va_Pc [.ref (A 0)] (zBw D Y (MX Y A σ hf hn wt wn tmS cdS (wdS σ) sy gp (ddS σ) i0 i1 i2 i3 fo de))) (zW (some (.int (-1002))) D (MX Y A σ hf hn wt wn tmS cdS (wdS σ) sy gp (ddS σ) (ag0 σ i0) (ag1 σ i1) (ag2 σ i2) (insI (trS σ) i3 (σ 0)) (decodeV σ) (decTV σ)) (zA (MX Y A σ hf hn wt wn tmS cdS (wdS σ) sy gp (ddS σ) i0 i1 i2 i3 fo de))) 0 0 (zA (MX Y A σ hf hn wt wn tmS cdS (wdS σ) sy gp (ddS σ) i0 i1 i2 i3 fo de)) := by
  refine zw_of (cc := cX6_sendCascade) (maxL := 7) (ret := (some .int)) (by decide) rfl (Nat.le_of_ble_eq_true rfl) ?_
  intro p e s m below meth c R args Q FA hR hx hb hml hr hlk hown hts hK hN hQ hP hD hS ls hl
  have hown : s.vm.findClass RX6 = some m.cls := hown
  have hl : lv_has ls 7 [(0, .ref (A 0))] := hl
  have hS := hS
  have kw := kσ
  obtain ⟨n3, n12, d1, d3, dn, b4, b10, gl, lm, sn, wl, wnz⟩ := kw
  have pb := zp_b b10
  have pk9 := zp_k d3
  suffices hgo : ∀ (H : Heap) (locs : List Loc), va_P D vwCl (MX Y A σ hf hn wt wn tmS cdS (wdS σ) sy gp (ddS σ) i0 i1 i2 i3 fo de) H → va_S FA s.heap H locs → W p l e R s m args below meth c H locs 0 0 Q (F0 m 0 ls []) from hgo _ _ hP hS
  clear hP hS
  intro H locs hP hS
  refine lv_aload_n hx hb dX6_sendCascade_0 rfl (lv_at hl 0 rfl) ?_
  refine zc_w (va_runV (As := []) (rest := []) ⟨hx, hb, hml, hown, hts⟩ (c_X6_decode l D Y A σ hf hn wt wn sy gp i0 i1 i2 i3 fo de  kσ ksy kgp) (cwV 0 hts gX6_sendCascade_X6_decode rfl rfl rfl (by decide +kernel) (by rw [hR]; exact ⟨Nat.le_of_ble_eq_true rfl, Nat.le_of_ble_eq_true rfl⟩)) ⟨zBw_blind, va_recv hK hP (ci := 6) (q0 := 0) rfl rfl, zp_w hP hD hK hN⟩ rfl rfl hl.1 rfl (lv_room (Nat.le_of_ble_eq_true rfl)) dX6_sendCascade_1 ⟨Nat.zero_le _, Nat.zero_le _⟩).run hS (zA_of hD) (fun H locs hP hz hk hS => ?_)
  have hD : va_D FA (MX Y A σ hf hn wt wn tmS cdS (wdS σ) sy gp (ddS σ) (ag0 σ i0) (ag1 σ i1) (ag2 σ i2) (insI (trS σ) i3 (σ 0)) (decodeV σ) (decTV σ)) := MX_dd hD
  refine zt_i (v := (-1004)) (if_neg (by omega)) ?_
  refine lv_istore_n (lv' := [(1, .int (-1004)), (0, .ref (A 0))]) hx hb dX6_sendCascade_4 rfl hl (by decide) rfl (fun ls hl => ?_)
  refine lv_iload_n hx hb dX6_sendCascade_5 rfl (lv_at hl 0 rfl) ?_
  refine zz_if_ge (tgt := 13) (a := -1004) hx hb dX6_sendCascade_6 (by decide) (by decide) (fun c6 => ?_) (fun c6 => ?_)
  · exact absurd c6 (by omega)
  · refine lv_sipush (v := (-1002)) hx hb dX6_sendCascade_9 (by decide) ?_
    exact zw_i hx hb hr hlk hQ hS dX6_sendCascade_12 (rfl) (hP)
