set_option maxHeartbeats 4000000 in
set_option maxRecDepth 100000 in
theorem c_X6_strength_bad (l : Launch) (D : va_G) (Y : Nat → ClassId) (A : Nat → Nat) (σ : Nat → Nat) (hf : Nat → Nat) (hn : Nat) (wt : Nat → Nat) (wn : Nat) (sy : Nat → Nat) (gp : Nat → Nat) (i0 : Nat → Nat) (i1 : Nat → Nat) (i2 : Nat → Nat) (i3 : Nat → Nat) (fo : Int32) (de : Int32) (y : Int32)  (kσ : zWF σ) (ksy : ∀ w9, w9 < 2 ^ (σ 2) → sy w9 = syS σ w9) (kgp : ∀ w9, w9 < 2 ^ (σ 2) → gp w9 = gpS σ w9) (hbad : ¬ (0 ≤ (y).toInt ∧ (y).toInt < ((σ 0 : Nat) : Int))) : Met l yX6_strength wsX6_strength ({ frames := 2, cells := 0, slots := 0, locals := 43 } : Room) (va_Pc [.ref (A 0), .int (y)] (zB D Y (MX Y A σ hf hn wt wn tmS cdS (wdS σ) sy gp (ddS σ) i0 i1 i2 i3 fo de))) (zR (.int (-1001))) 0 0 (fun _ => False) := by
  refine zr_of (cc := cX6_strength) (maxL := 5) (ret := (some .int)) (by decide) rfl (Nat.le_of_ble_eq_true rfl) ?_
  intro p e s m below meth c R args Q hR hx hb hml hr hlk hown hts hK hN hP hQ ls hl
  have hown : s.vm.findClass RX6 = some m.cls := hown
  have hl : lv_has ls 5 [(0, .ref (A 0)), (1, .int (y))] := hl
  have kw := kσ
  obtain ⟨n3, n12, d1, d3, dn, b4, b10, gl, lm, sn, wl, wnz⟩ := kw
  have pb := zp_b b10
  have pk9 := zp_k d3
  refine lv_aload_n hx hb dX6_strength_0 rfl (lv_at hl 0 rfl) ?_
  refine lv_iload_n hx hb dX6_strength_1 rfl (lv_at hl 1 rfl) ?_
  refine zc_r (va_runV (As := [.int (y)]) (rest := []) ⟨hx, hb, hml, hown, hts⟩ (c_X6_isBlock l D Y A σ hf hn wt wn tmS cdS (wdS σ) sy gp (ddS σ) i0 i1 i2 i3 fo de y n12 (by omega)) (cwV 1 hts gX6_strength_X6_isBlock rfl rfl rfl (by decide +kernel) (by rw [hR]; exact ⟨Nat.le_of_ble_eq_true rfl, Nat.le_of_ble_eq_true rfl⟩)) ⟨zB_blind, va_recv hK hP (ci := 6) (q0 := 0) rfl rfl, zp_r hP hK hN⟩ rfl rfl hl.1 rfl (lv_room (Nat.le_of_ble_eq_true rfl)) dX6_strength_2 ⟨Nat.zero_le _, Nat.zero_le _⟩).run ?_
  refine zb_if_ne (tgt := 12)  hx hb dX6_strength_5 (by decide)  (fun c5 => ?_) (fun c5 => ?_)
  · exact absurd c5 hbad
  · refine lv_sipush (v := (-1001)) hx hb dX6_strength_8 (by decide) ?_
    exact zr_i hx hb hr hlk hQ dX6_strength_11 (rfl)
set_option maxHeartbeats 4000000 in
set_option maxRecDepth 100000 in
theorem c_X6_strength_lost (l : Launch) (D : va_G) (Y : Nat → ClassId) (A : Nat → Nat) (σ : Nat → Nat) (hf : Nat → Nat) (hn : Nat) (wt : Nat → Nat) (wn : Nat) (sy : Nat → Nat) (gp : Nat → Nat) (i0 : Nat → Nat) (i1 : Nat → Nat) (i2 : Nat → Nat) (i3 : Nat → Nat) (fo : Int32) (de : Int32) (j : Nat)  (kσ : zWF σ) (ksy : ∀ w9, w9 < 2 ^ (σ 2) → sy w9 = syS σ w9) (kgp : ∀ w9, w9 < 2 ^ (σ 2) → gp w9 = gpS σ w9) (hj : j < σ 0) (hls : zL (σ 7) j = 1) : Met l yX6_strength wsX6_strength ({ frames := 2, cells := 0, slots := 0, locals := 43 } : Room) (va_Pc [.ref (A 0), .int (nI j)] (zB D Y (MX Y A σ hf hn wt wn tmS cdS (wdS σ) sy gp (ddS σ) i0 i1 i2 i3 fo de))) (zR (.int (-1002))) 0 0 (fun _ => False) := by
  refine zr_of (cc := cX6_strength) (maxL := 5) (ret := (some .int)) (by decide) rfl (Nat.le_of_ble_eq_true rfl) ?_
  intro p e s m below meth c R args Q hR hx hb hml hr hlk hown hts hK hN hP hQ ls hl
  have hown : s.vm.findClass RX6 = some m.cls := hown
  have hl : lv_has ls 5 [(0, .ref (A 0)), (1, .int (nI j))] := hl
  have kw := kσ
  obtain ⟨n3, n12, d1, d3, dn, b4, b10, gl, lm, sn, wl, wnz⟩ := kw
  have pb := zp_b b10
  have pk9 := zp_k d3
  refine lv_aload_n hx hb dX6_strength_0 rfl (lv_at hl 0 rfl) ?_
  refine lv_iload_n hx hb dX6_strength_1 rfl (lv_at hl 1 rfl) ?_
  refine zc_r (va_runV (As := [.int (nI j)]) (rest := []) ⟨hx, hb, hml, hown, hts⟩ (c_X6_isBlock l D Y A σ hf hn wt wn tmS cdS (wdS σ) sy gp (ddS σ) i0 i1 i2 i3 fo de ((nI j)) n12 (by omega)) (cwV 1 hts gX6_strength_X6_isBlock rfl rfl rfl (by decide +kernel) (by rw [hR]; exact ⟨Nat.le_of_ble_eq_true rfl, Nat.le_of_ble_eq_true rfl⟩)) ⟨zB_blind, va_recv hK hP (ci := 6) (q0 := 0) rfl rfl, zp_r hP hK hN⟩ rfl rfl hl.1 rfl (lv_room (Nat.le_of_ble_eq_true rfl)) dX6_strength_2 ⟨Nat.zero_le _, Nat.zero_le _⟩).run ?_
  refine zb_if_ne (tgt := 12)  hx hb dX6_strength_5 (by decide)  (fun c5 => ?_) (fun c5 => ?_)
  · refine lv_aload_n hx hb dX6_strength_12 rfl (lv_at hl 0 rfl) ?_
    refine lv_iload_n hx hb dX6_strength_13 rfl (lv_at hl 1 rfl) ?_
    refine zc_r (va_runV (As := [.int (nI j)]) (rest := []) ⟨hx, hb, hml, hown, hts⟩ (c_X6_isLost l D Y A σ hf hn wt wn tmS cdS (wdS σ) sy gp (ddS σ) i0 i1 i2 i3 fo de j lm (by omega)) (cwV 1 hts gX6_strength_X6_isLost rfl rfl rfl (by decide +kernel) (by rw [hR]; exact ⟨Nat.le_of_ble_eq_true rfl, Nat.le_of_ble_eq_true rfl⟩)) ⟨zB_blind, va_recv hK hP (ci := 6) (q0 := 0) rfl rfl, zp_r hP hK hN⟩ rfl rfl hl.1 rfl (lv_room (Nat.le_of_ble_eq_true rfl)) dX6_strength_14 ⟨Nat.zero_le _, Nat.zero_le _⟩).run ?_
    refine zb_if_eq (tgt := 24)  hx hb dX6_strength_17 (by decide)  (fun c17 => ?_) (fun c17 => ?_)
    · exact absurd hls c17
    · refine lv_sipush (v := (-1002)) hx hb dX6_strength_20 (by decide) ?_
      exact zr_i hx hb hr hlk hQ dX6_strength_23 (rfl)
  · exact absurd ⟨by rw [zt_n (by omega)]; omega, by rw [zt_n (by omega)]; omega⟩ c5
set_option maxHeartbeats 4000000 in
set_option maxRecDepth 100000 in
theorem c_X6_nearest_bad (l : Launch) (D : va_G) (Y : Nat → ClassId) (A : Nat → Nat) (σ : Nat → Nat) (hf : Nat → Nat) (hn : Nat) (wt : Nat → Nat) (wn : Nat) (sy : Nat → Nat) (gp : Nat → Nat) (i0 : Nat → Nat) (i1 : Nat → Nat) (i2 : Nat → Nat) (i3 : Nat → Nat) (fo : Int32) (de : Int32) (x : Int32)  (kσ : zWF σ) (ksy : ∀ w9, w9 < 2 ^ (σ 2) → sy w9 = syS σ w9) (kgp : ∀ w9, w9 < 2 ^ (σ 2) → gp w9 = gpS σ w9) (hbad : ¬ (0 ≤ (x).toInt ∧ (x).toInt < 2)) : Met l yX6_nearest wsX6_nearest ({ frames := 4, cells := 0, slots := 0, locals := 88 } : Room) (va_Pc [.ref (A 0), .int (x)] (zB D Y (MX Y A σ hf hn wt wn tmS cdS (wdS σ) sy gp (ddS σ) i0 i1 i2 i3 fo de))) (zR (.int (-1001))) 0 0 (fun _ => False) := by
  refine zr_of (cc := cX6_nearest) (maxL := 7) (ret := (some .int)) (by decide) rfl (Nat.le_of_ble_eq_true rfl) ?_
  intro p e s m below meth c R args Q hR hx hb hml hr hlk hown hts hK hN hP hQ ls hl
  have hown : s.vm.findClass RX6 = some m.cls := hown
  have hl : lv_has ls 7 [(0, .ref (A 0)), (1, .int (x))] := hl
  have kw := kσ
  obtain ⟨n3, n12, d1, d3, dn, b4, b10, gl, lm, sn, wl, wnz⟩ := kw
  have pb := zp_b b10
  have pk9 := zp_k d3
  refine lv_iload_n hx hb dX6_nearest_0 rfl (lv_at hl 1 rfl) ?_
  refine lv_iconst (v := (nI 0)) hx hb dX6_nearest_1 (by decide) ?_
  refine lv_iconst (v := (nI 1)) hx hb dX6_nearest_2 (by decide) ?_
  refine zc_r (va_runS (As := [.int (x), .int (nI 0), .int (nI 1)]) (rest := []) ⟨hx, hb, hml, hown, hts⟩ (c_X6_in l D Y  x ((nI 0)) ((nI 1)) ) (va_cwS 3 hts gX6_nearest_X6_in rfl rfl rfl (by decide +kernel) (by rw [hR]; exact ⟨Nat.le_of_ble_eq_true rfl, Nat.le_of_ble_eq_true rfl⟩)) ⟨zB_blind, (zp_r (v := [.int (x), .int (nI 0), .int (nI 1)]) (fun k q h => absurd h (by simp)) hK hN)⟩ rfl rfl hl.1 rfl (lv_room (Nat.le_of_ble_eq_true rfl)) dX6_nearest_3 ⟨Nat.zero_le _, Nat.zero_le _⟩).run ?_
  have h3a : ((nI 0)).toInt = _ := zt_n (by omega)
  have h3b : ((nI 1)).toInt = _ := zt_n (by omega)
  refine zb_if_ne (tgt := 13)  hx hb dX6_nearest_6 (by decide)  (fun c6 => ?_) (fun c6 => ?_)
  · exact absurd c6 (by omega)
  · refine lv_sipush (v := (-1001)) hx hb dX6_nearest_9 (by decide) ?_
    exact zr_i hx hb hr hlk hQ dX6_nearest_12 (rfl)
theorem qX6_nearest_Cond_fieldLink_RX6_115_NestedCodesModel_found_I_ : Cond.fieldLink RX6 115 "NestedCodesModel" "found" "I" ∈ wsX6_nearest := by decide +kernel
theorem qX6_nearest_inX6 : ∀ w ∈ wsX60, w ∈ wsX6_nearest := by decide +kernel
set_option maxHeartbeats 4000000 in
set_option maxRecDepth 100000 in
theorem c_X6_nearest_not (l : Launch) (D : va_G) (Y : Nat → ClassId) (A : Nat → Nat) (σ : Nat → Nat) (hf : Nat → Nat) (hn : Nat) (wt : Nat → Nat) (wn : Nat) (sy : Nat → Nat) (gp : Nat → Nat) (i0 : Nat → Nat) (i1 : Nat → Nat) (i2 : Nat → Nat) (i3 : Nat → Nat) (fo : Int32) (de : Int32) (x : Int32)  (kσ : zWF σ) (ksy : ∀ w9, w9 < 2 ^ (σ 2) → sy w9 = syS σ w9) (kgp : ∀ w9, w9 < 2 ^ (σ 2) → gp w9 = gpS σ w9) (hx0 : 0 ≤ (x).toInt) (hx2 : (x).toInt < 2) (hlm : nMs σ ≤ lawM σ) : Met l yX6_nearest wsX6_nearest ({ frames := 4, cells := 0, slots := 0, locals := 88 } : Room) (va_Pc [.ref (A 0), .int (x)] (zBw D Y (MX Y A σ hf hn wt wn tmS cdS (wdS σ) sy gp (ddS σ) i0 i1 i2 i3 fo de))) (zW (some (.int (-1004))) D (MX Y A σ hf hn wt wn tmS cdS (wdS σ) sy gp (ddS σ) (ag0 σ i0) (ag1 σ i1) (ag2 σ i2) (insI (trS σ) i3 (σ 0)) (decodeV σ) (decTV σ)) (zA (MX Y A σ hf hn wt wn tmS cdS (wdS σ) sy gp (ddS σ) i0 i1 i2 i3 fo de))) 0 0 (zA (MX Y A σ hf hn wt wn tmS cdS (wdS σ) sy gp (ddS σ) i0 i1 i2 i3 fo de)) := by
  refine zw_of (cc := cX6_nearest) (maxL := 7) (ret := (some .int)) (by decide) rfl (Nat.le_of_ble_eq_true rfl) ?_
  intro p e s m below meth c R args Q FA hR hx hb hml hr hlk hown hts hK hN hQ hP hD hS ls hl
  have hown : s.vm.findClass RX6 = some m.cls := hown
  have hl : lv_has ls 7 [(0, .ref (A 0)), (1, .int (x))] := hl
  have hS := hS
  have kw := kσ
  obtain ⟨n3, n12, d1, d3, dn, b4, b10, gl, lm, sn, wl, wnz⟩ := kw
  have pb := zp_b b10
  have pk9 := zp_k d3
  suffices hgo : ∀ (H : Heap) (locs : List Loc), va_P D vwCl (MX Y A σ hf hn wt wn tmS cdS (wdS σ) sy gp (ddS σ) i0 i1 i2 i3 fo de) H → va_S FA s.heap H locs → W p l e R s m args below meth c H locs 0 0 Q (F0 m 0 ls []) from hgo _ _ hP hS
  clear hP hS
  intro H locs hP hS
  refine lv_iload_n hx hb dX6_nearest_0 rfl (lv_at hl 1 rfl) ?_
  refine lv_iconst (v := (nI 0)) hx hb dX6_nearest_1 (by decide) ?_
  refine lv_iconst (v := (nI 1)) hx hb dX6_nearest_2 (by decide) ?_
  refine zc_r (va_runS (As := [.int (x), .int (nI 0), .int (nI 1)]) (rest := []) ⟨hx, hb, hml, hown, hts⟩ (c_X6_in l D Y  x ((nI 0)) ((nI 1)) ) (va_cwS 3 hts gX6_nearest_X6_in rfl rfl rfl (by decide +kernel) (by rw [hR]; exact ⟨Nat.le_of_ble_eq_true rfl, Nat.le_of_ble_eq_true rfl⟩)) ⟨zB_blind, (zp_r (v := [.int (x), .int (nI 0), .int (nI 1)]) (fun k q h => absurd h (by simp)) hK hN)⟩ rfl rfl hl.1 rfl (lv_room (Nat.le_of_ble_eq_true rfl)) dX6_nearest_3 ⟨Nat.zero_le _, Nat.zero_le _⟩).run ?_
  have h3a : ((nI 0)).toInt = _ := zt_n (by omega)
  have h3b : ((nI 1)).toInt = _ := zt_n (by omega)
  refine zb_if_ne (tgt := 13)  hx hb dX6_nearest_6 (by decide)  (fun c6 => ?_) (fun c6 => ?_)
  · refine lv_aload_n hx hb dX6_nearest_13 rfl (lv_at hl 0 rfl) ?_
    refine zc_w (va_runV (As := []) (rest := []) ⟨hx, hb, hml, hown, hts⟩ (c_X6_decodes l D Y A σ hf hn wt wn sy gp i0 i1 i2 i3 fo de  kσ ksy kgp) (cwV 0 hts gX6_nearest_X6_decodes rfl rfl rfl (by decide +kernel) (by rw [hR]; exact ⟨Nat.le_of_ble_eq_true rfl, Nat.le_of_ble_eq_true rfl⟩)) ⟨zBw_blind, va_recv hK hP (ci := 6) (q0 := 0) rfl rfl, zp_w hP hD hK hN⟩ rfl rfl hl.1 rfl (lv_room (Nat.le_of_ble_eq_true rfl)) dX6_nearest_14 ⟨Nat.zero_le _, Nat.zero_le _⟩).run hS (zA_of hD) (fun H locs hP hz hk hS => ?_)
    have hD : va_D FA (MX Y A σ hf hn wt wn tmS cdS (wdS σ) sy gp (ddS σ) (ag0 σ i0) (ag1 σ i1) (ag2 σ i2) (insI (trS σ) i3 (σ 0)) (decodeV σ) (decTV σ)) := MX_dd hD
    refine lv_aload_n hx hb dX6_nearest_17 rfl (lv_at hl 0 rfl) ?_
    refine va_get (D := D) (ci := 6) (v := .int (decodeV σ)) (C := RX6) (T := TX6) (N := 17) hx hb hts qX6_nearest_inX6 hown hK hP 0 rfl rfl 15 (by decide) (hts _ qX6_nearest_Cond_fieldLink_RX6_115_NestedCodesModel_found_I_) (fun _ h9 => h9) rfl dX6_nearest_18 ?_
    refine zt_i (v := (-1004)) (if_neg (by omega)) ?_
    refine zz_if_ge (tgt := 28) (a := -1004) hx hb dX6_nearest_21 (by decide) (by decide) (fun c21 => ?_) (fun c21 => ?_)
    · exact absurd c21 (by omega)
    · refine lv_sipush (v := (-1004)) hx hb dX6_nearest_24 (by decide) ?_
      exact zw_i hx hb hr hlk hQ hS dX6_nearest_27 (rfl) (hP)
  · exact absurd c6 (by omega)
