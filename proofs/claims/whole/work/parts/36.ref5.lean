theorem qX6_decodes_Cond_fieldLink_RX6_115_NestedCodesModel_found_I_ : Cond.fieldLink RX6 115 "NestedCodesModel" "found" "I" ∈ wsX6_decodes := by decide +kernel
theorem qX6_decodes_inX6 : ∀ w ∈ wsX60, w ∈ wsX6_decodes := by decide +kernel
theorem qX6_decodes_Cond_fieldLink_RX6_118_NestedCodesModel_deciding_I_ : Cond.fieldLink RX6 118 "NestedCodesModel" "deciding" "I" ∈ wsX6_decodes := by decide +kernel
set_option maxHeartbeats 4000000 in
set_option maxRecDepth 100000 in
theorem c_X6_decodes (l : Launch) (D : va_G) (Y : Nat → ClassId) (A : Nat → Nat) (σ : Nat → Nat) (hf : Nat → Nat) (hn : Nat) (wt : Nat → Nat) (wn : Nat) (sy : Nat → Nat) (gp : Nat → Nat) (i0 : Nat → Nat) (i1 : Nat → Nat) (i2 : Nat → Nat) (i3 : Nat → Nat) (fo : Int32) (de : Int32)   (kσ : zWF σ) (ksy : ∀ w9, w9 < 2 ^ (σ 2) → sy w9 = syS σ w9) (kgp : ∀ w9, w9 < 2 ^ (σ 2) → gp w9 = gpS σ w9) : Met l yX6_decodes wsX6_decodes ({ frames := 3, cells := 0, slots := 0, locals := 66 } : Room) (va_Pc [.ref (A 0)] (zBw D Y (MX Y A σ hf hn wt wn tmS cdS (wdS σ) sy gp (ddS σ) i0 i1 i2 i3 fo de))) (zW none D (MX Y A σ hf hn wt wn tmS cdS (wdS σ) sy gp (ddS σ) (ag0 σ i0) (ag1 σ i1) (ag2 σ i2) (insI (trS σ) i3 (σ 0)) (decodeV σ) (decTV σ)) (zA (MX Y A σ hf hn wt wn tmS cdS (wdS σ) sy gp (ddS σ) i0 i1 i2 i3 fo de))) 0 0 (zA (MX Y A σ hf hn wt wn tmS cdS (wdS σ) sy gp (ddS σ) i0 i1 i2 i3 fo de)) := by
  refine zw_of (cc := cX6_decodes) (maxL := 3) (ret := none) (by decide) rfl (Nat.le_of_ble_eq_true rfl) ?_
  intro p e s m below meth c R args Q FA hR hx hb hml hr hlk hown hts hK hN hQ hP hD hS ls hl
  have hown : s.vm.findClass RX6 = some m.cls := hown
  have hl : lv_has ls 3 [(0, .ref (A 0))] := hl
  have hS := hS
  have kw := kσ
  obtain ⟨n3, n12, d1, d3, dn, b4, b10, gl, lm, sn, wl, wnz⟩ := kw
  have pb := zp_b b10
  have pk9 := zp_k d3
  suffices hgo : ∀ (H : Heap) (locs : List Loc), va_P D vwCl (MX Y A σ hf hn wt wn tmS cdS (wdS σ) sy gp (ddS σ) i0 i1 i2 i3 fo de) H → va_S FA s.heap H locs → W p l e R s m args below meth c H locs 0 0 Q (F0 m 0 ls []) from hgo _ _ hP hS
  clear hP hS
  intro H locs hP hS
  refine lv_aload_n hx hb dX6_decodes_0 rfl (lv_at hl 0 rfl) ?_
  refine zc_w (va_runV (As := []) (rest := []) ⟨hx, hb, hml, hown, hts⟩ (c_X6_judges l D Y A σ hf hn wt wn sy gp i0 i1 i2 i3 fo de  kσ ksy kgp) (cwV 0 hts gX6_decodes_X6_judges rfl rfl rfl (by decide +kernel) (by rw [hR]; exact ⟨Nat.le_of_ble_eq_true rfl, Nat.le_of_ble_eq_true rfl⟩)) ⟨zBw_blind, va_recv hK hP (ci := 6) (q0 := 0) rfl rfl, zp_w hP hD hK hN⟩ rfl rfl hl.1 rfl (lv_room (Nat.le_of_ble_eq_true rfl)) dX6_decodes_1 ⟨Nat.zero_le _, Nat.zero_le _⟩).run hS (zA_of hD) (fun H locs hP hz hk hS => ?_)
  have hD : va_D FA (MX Y A σ hf hn wt wn tmS cdS (wdS σ) sy gp (ddS σ) (ag0 σ i0) (ag1 σ i1) (ag2 σ i2) (insI (trS σ) i3 (σ 0)) fo de) := MX_dd hD
  have kj := jCon_ju σ i0 i1 i2 i3
  refine lv_aload_n hx hb dX6_decodes_4 rfl (lv_at hl 0 rfl) ?_
  refine lv_sipush (v := (-1004)) hx hb dX6_decodes_5 (by decide) ?_
  refine va_put (D := D) (ci := 6) (v := .int (-1004)) (ty := .int) (C := RX6) (T := TX6) (N := 17) hx hb hts qX6_decodes_inX6 tyX6 tyX6_ok nmX6 hown hK hP hD hS 0 rfl rfl 15 (by decide) (hts _ qX6_decodes_Cond_fieldLink_RX6_115_NestedCodesModel_found_I_) (fun _ h9 => h9) rfl (by decide +kernel) rfl rfl (Nat.le_of_ble_eq_true rfl) dX6_decodes_8 (fun H locs hP hD9 hS => ?_)
  rw [MX_f_fo] at hP
  have hP : va_P D vwCl (MX Y A σ hf hn wt wn tmS cdS (wdS σ) sy gp (ddS σ) (ag0 σ i0) (ag1 σ i1) (ag2 σ i2) (insI (trS σ) i3 (σ 0)) (-1004) de) H := hP
  have hD : va_D FA (MX Y A σ hf hn wt wn tmS cdS (wdS σ) sy gp (ddS σ) (ag0 σ i0) (ag1 σ i1) (ag2 σ i2) (insI (trS σ) i3 (σ 0)) (-1004) de) := MX_dd hD
  clear hD9
  refine lv_aload_n hx hb dX6_decodes_11 rfl (lv_at hl 0 rfl) ?_
  refine lv_sipush (v := (-1004)) hx hb dX6_decodes_12 (by decide) ?_
  refine va_put (D := D) (ci := 6) (v := .int (-1004)) (ty := .int) (C := RX6) (T := TX6) (N := 17) hx hb hts qX6_decodes_inX6 tyX6 tyX6_ok nmX6 hown hK hP hD hS 0 rfl rfl 16 (by decide) (hts _ qX6_decodes_Cond_fieldLink_RX6_118_NestedCodesModel_deciding_I_) (fun _ h9 => h9) rfl (by decide +kernel) rfl rfl (Nat.le_of_ble_eq_true rfl) dX6_decodes_15 (fun H locs hP hD9 hS => ?_)
  rw [MX_f_de] at hP
  have hP : va_P D vwCl (MX Y A σ hf hn wt wn tmS cdS (wdS σ) sy gp (ddS σ) (ag0 σ i0) (ag1 σ i1) (ag2 σ i2) (insI (trS σ) i3 (σ 0)) (-1004) (-1004)) H := hP
  have hD : va_D FA (MX Y A σ hf hn wt wn tmS cdS (wdS σ) sy gp (ddS σ) (ag0 σ i0) (ag1 σ i1) (ag2 σ i2) (insI (trS σ) i3 (σ 0)) (-1004) (-1004)) := MX_dd hD
  clear hD9
  refine lv_iconst (v := (nI 0)) hx hb dX6_decodes_18 (by decide) ?_
  refine lv_istore_n (lv' := [(1, .int (nI 0)), (0, .ref (A 0))]) hx hb dX6_decodes_19 rfl hl (by decide) rfl (fun ls hl => ?_)
  have L20 : ∀ (n9 : Nat) (i : Nat) (hi : i ≤ nMs σ), nMs σ - i < n9 → ∀ (H : Heap) (locs : List Loc), va_P D vwCl (MX Y A σ hf hn wt wn tmS cdS (wdS σ) sy gp (ddS σ) (ag0 σ i0) (ag1 σ i1) (ag2 σ i2) (insI (trS σ) i3 (σ 0)) (foI σ i) (deI σ i)) H → va_D FA (MX Y A σ hf hn wt wn tmS cdS (wdS σ) sy gp (ddS σ) (ag0 σ i0) (ag1 σ i1) (ag2 σ i2) (insI (trS σ) i3 (σ 0)) (foI σ i) (deI σ i)) → va_S FA s.heap H locs → ∀ ls : Array Slot, lv_has ls 3 [(1, .int (nI i)), (0, .ref (A 0))] → W p l e R s m args below meth c H locs 0 0 Q (F0 m 20 ls []) := by
    intro n9
    induction n9 with
    | zero => intro i hi hn9; exact absurd hn9 (Nat.not_lt_zero _)
    | succ n9 ih9 =>
      have ih20 := ih9
      clear ih9
      intro i hi hn9 H locs hP hD hS ls hl
      have hnm : nMs σ = 2 ^ (4 * σ 1) := rfl
      refine lv_iload_n hx hb dX6_decodes_20 rfl (lv_at hl 0 rfl) ?_
      refine lv_aload_n hx hb dX6_decodes_21 rfl (lv_at hl 1 rfl) ?_
      refine zc_r (va_runV (As := []) (rest := [.int (nI i)]) ⟨hx, hb, hml, hown, hts⟩ (c_X6_messages l D Y A σ hf hn wt wn tmS cdS (wdS σ) sy gp (ddS σ) (ag0 σ i0) (ag1 σ i1) (ag2 σ i2) (insI (trS σ) i3 (σ 0)) (foI σ i) (deI σ i)  kσ) (cwV 0 hts gX6_decodes_X6_messages rfl rfl rfl (by decide +kernel) (by rw [hR]; exact ⟨Nat.le_of_ble_eq_true rfl, Nat.le_of_ble_eq_true rfl⟩)) ⟨zB_blind, va_recv hK hP (ci := 6) (q0 := 0) rfl rfl, zp_r hP hK hN⟩ rfl rfl hl.1 rfl (lv_room (Nat.le_of_ble_eq_true rfl)) dX6_decodes_22 ⟨Nat.zero_le _, Nat.zero_le _⟩).run ?_
      refine zn_icmp_ge (tgt := 81)  hx hb dX6_decodes_25 (by decide) (by omega) (by omega) (fun c25 => ?_) (fun c25 => ?_)
      · obtain rfl : i = nMs σ := by omega
        rw [foI_end, deI_end] at hP
        have hP : va_P D vwCl (MX Y A σ hf hn wt wn tmS cdS (wdS σ) sy gp (ddS σ) (ag0 σ i0) (ag1 σ i1) (ag2 σ i2) (insI (trS σ) i3 (σ 0)) (decodeV σ) (decTV σ)) H := hP
        have hD : va_D FA (MX Y A σ hf hn wt wn tmS cdS (wdS σ) sy gp (ddS σ) (ag0 σ i0) (ag1 σ i1) (ag2 σ i2) (insI (trS σ) i3 (σ 0)) (decodeV σ) (decTV σ)) := MX_dd hD
        exact zw_v hx hb hr hlk hQ hS dX6_decodes_81 (hP)
      · refine lv_aload_n hx hb dX6_decodes_28 rfl (lv_at hl 1 rfl) ?_
        refine lv_iload_n hx hb dX6_decodes_29 rfl (lv_at hl 0 rfl) ?_
        refine zc_r (va_runV (As := [.int (nI i)]) (rest := []) ⟨hx, hb, hml, hown, hts⟩ (c_X6_scoreOf l D Y A σ hf hn wt wn sy gp (ag0 σ i0) (ag1 σ i1) (ag2 σ i2) (insI (trS σ) i3 (σ 0)) (foI σ i) (deI σ i) i kσ kj (by omega)) (cwV 1 hts gX6_decodes_X6_scoreOf rfl rfl rfl (by decide +kernel) (by rw [hR]; exact ⟨Nat.le_of_ble_eq_true rfl, Nat.le_of_ble_eq_true rfl⟩)) ⟨zB_blind, va_recv hK hP (ci := 6) (q0 := 0) rfl rfl, zp_r hP hK hN⟩ rfl rfl hl.1 rfl (lv_room (Nat.le_of_ble_eq_true rfl)) dX6_decodes_30 ⟨Nat.zero_le _, Nat.zero_le _⟩).run ?_
        have hsc30 := scS_b n12 i
        refine lv_aload_n hx hb dX6_decodes_33 rfl (lv_at hl 1 rfl) ?_
        refine zc_r (va_runV (As := []) (rest := [.int (zI (scS σ i))]) ⟨hx, hb, hml, hown, hts⟩ (c_X6_bar l D Y A σ hf hn wt wn sy gp (ag0 σ i0) (ag1 σ i1) (ag2 σ i2) (insI (trS σ) i3 (σ 0)) (foI σ i) (deI σ i)  kσ) (cwV 0 hts gX6_decodes_X6_bar rfl rfl rfl (by decide +kernel) (by rw [hR]; exact ⟨Nat.le_of_ble_eq_true rfl, Nat.le_of_ble_eq_true rfl⟩)) ⟨zB_blind, va_recv hK hP (ci := 6) (q0 := 0) rfl rfl, zp_r hP hK hN⟩ rfl rfl hl.1 rfl (lv_room (Nat.le_of_ble_eq_true rfl)) dX6_decodes_34 ⟨Nat.zero_le _, Nat.zero_le _⟩).run ?_
        have hbar34 := barS_le kσ
        refine zz_icmp_le (tgt := 75) (a := scS σ i) (b := (((barS σ : Nat)) : Int)) hx hb dX6_decodes_37 (by decide) (zI_toInt (by omega) (by omega)) (zt_n (by omega)) (fun c37 => ?_) (fun c37 => ?_)
        · refine lv_iinc (v := (nI (i + 1))) (lv' := [(1, .int (nI (i + 1))), (0, .ref (A 0))]) hx hb dX6_decodes_75 hl (k := 0) rfl (zinc _) (by decide) rfl (fun ls hl => ?_)
          refine lv_goto (tgt := 20) hx hb dX6_decodes_78 (by decide) ?_
          have e9 : (foI σ i) = (foI σ (i + 1)) := foI_no (by omega)
          rw [e9] at hP
          clear e9
          have e9 : (deI σ i) = (deI σ (i + 1)) := deI_no (by omega)
          rw [e9] at hP
          clear e9
          have hP : va_P D vwCl (MX Y A σ hf hn wt wn tmS cdS (wdS σ) sy gp (ddS σ) (ag0 σ i0) (ag1 σ i1) (ag2 σ i2) (insI (trS σ) i3 (σ 0)) (foI σ (i + 1)) (deI σ (i + 1))) H := hP
          have hD : va_D FA (MX Y A σ hf hn wt wn tmS cdS (wdS σ) sy gp (ddS σ) (ag0 σ i0) (ag1 σ i1) (ag2 σ i2) (insI (trS σ) i3 (σ 0)) (foI σ (i + 1)) (deI σ (i + 1))) := MX_dd hD
          exact ih20 (i + 1) (by omega) (by omega) H locs hP hD hS ls (lv_sub hl [0, 1] rfl)
        · obtain ⟨s9, hs9, he9, hd9, hf9, hde⟩ := tri_law kσ (i := i) (by omega) (by omega)
          refine lv_aload_n hx hb dX6_decodes_40 rfl (lv_at hl 1 rfl) ?_
          refine lv_iload_n hx hb dX6_decodes_41 rfl (lv_at hl 0 rfl) ?_
          refine zc_r (va_runV (As := [.int (nI i)]) (rest := []) ⟨hx, hb, hml, hown, hts⟩ (c_X6_trialOf l D Y A σ hf hn wt wn sy gp (ag0 σ i0) (ag1 σ i1) (ag2 σ i2) (insI (trS σ) i3 (σ 0)) (foI σ i) (deI σ i) i kσ kj (by omega)) (cwV 1 hts gX6_decodes_X6_trialOf rfl rfl rfl (by decide +kernel) (by rw [hR]; exact ⟨Nat.le_of_ble_eq_true rfl, Nat.le_of_ble_eq_true rfl⟩)) ⟨zB_blind, va_recv hK hP (ci := 6) (q0 := 0) rfl rfl, zp_r hP hK hN⟩ rfl rfl hl.1 rfl (lv_room (Nat.le_of_ble_eq_true rfl)) dX6_decodes_42 ⟨Nat.zero_le _, Nat.zero_le _⟩).run ?_
          refine zt_i (v := (nI s9)) (he9) ?_
          refine lv_istore_n (lv' := [(2, .int (nI s9)), (1, .int (nI i)), (0, .ref (A 0))]) hx hb dX6_decodes_45 rfl hl (by decide) rfl (fun ls hl => ?_)
          refine lv_iload_n hx hb dX6_decodes_46 rfl (lv_at hl 0 rfl) ?_
          refine zn_if_lt (tgt := 75)  hx hb dX6_decodes_47 (by decide) (by omega) (fun c47 => ?_) (fun c47 => ?_)
          · exact absurd c47 (by omega)
          · refine lv_aload_n hx hb dX6_decodes_50 rfl (lv_at hl 2 rfl) ?_
            refine va_get (D := D) (ci := 6) (v := .int (deI σ i)) (C := RX6) (T := TX6) (N := 17) hx hb hts qX6_decodes_inX6 hown hK hP 0 rfl rfl 16 (by decide) (hts _ qX6_decodes_Cond_fieldLink_RX6_118_NestedCodesModel_deciding_I_) (fun _ h9 => h9) rfl dX6_decodes_51 ?_
            refine zt_i (v := (-1004)) (hde) ?_
            refine zz_if_lt (tgt := 65) (a := -1004) hx hb dX6_decodes_54 (by decide) (by decide) (fun c54 => ?_) (fun c54 => ?_)
            · refine lv_aload_n hx hb dX6_decodes_65 rfl (lv_at hl 2 rfl) ?_
              refine lv_iload_n hx hb dX6_decodes_66 rfl (lv_at hl 1 rfl) ?_
              refine va_put (D := D) (ci := 6) (v := .int (nI i)) (ty := .int) (C := RX6) (T := TX6) (N := 17) hx hb hts qX6_decodes_inX6 tyX6 tyX6_ok nmX6 hown hK hP hD hS 0 rfl rfl 15 (by decide) (hts _ qX6_decodes_Cond_fieldLink_RX6_115_NestedCodesModel_found_I_) (fun _ h9 => h9) rfl (by decide +kernel) rfl rfl (Nat.le_of_ble_eq_true rfl) dX6_decodes_67 (fun H locs hP hD9 hS => ?_)
              rw [MX_f_fo] at hP
              have hP : va_P D vwCl (MX Y A σ hf hn wt wn tmS cdS (wdS σ) sy gp (ddS σ) (ag0 σ i0) (ag1 σ i1) (ag2 σ i2) (insI (trS σ) i3 (σ 0)) ((nI i)) (deI σ i)) H := hP
              have hD : va_D FA (MX Y A σ hf hn wt wn tmS cdS (wdS σ) sy gp (ddS σ) (ag0 σ i0) (ag1 σ i1) (ag2 σ i2) (insI (trS σ) i3 (σ 0)) ((nI i)) (deI σ i)) := MX_dd hD
              clear hD9
              refine lv_aload_n hx hb dX6_decodes_70 rfl (lv_at hl 2 rfl) ?_
              refine lv_iload_n hx hb dX6_decodes_71 rfl (lv_at hl 0 rfl) ?_
              refine va_put (D := D) (ci := 6) (v := .int (nI s9)) (ty := .int) (C := RX6) (T := TX6) (N := 17) hx hb hts qX6_decodes_inX6 tyX6 tyX6_ok nmX6 hown hK hP hD hS 0 rfl rfl 16 (by decide) (hts _ qX6_decodes_Cond_fieldLink_RX6_118_NestedCodesModel_deciding_I_) (fun _ h9 => h9) rfl (by decide +kernel) rfl rfl (Nat.le_of_ble_eq_true rfl) dX6_decodes_72 (fun H locs hP hD9 hS => ?_)
              rw [MX_f_de] at hP
              have hP : va_P D vwCl (MX Y A σ hf hn wt wn tmS cdS (wdS σ) sy gp (ddS σ) (ag0 σ i0) (ag1 σ i1) (ag2 σ i2) (insI (trS σ) i3 (σ 0)) ((nI i)) ((nI s9))) H := hP
              have hD : va_D FA (MX Y A σ hf hn wt wn tmS cdS (wdS σ) sy gp (ddS σ) (ag0 σ i0) (ag1 σ i1) (ag2 σ i2) (insI (trS σ) i3 (σ 0)) ((nI i)) ((nI s9))) := MX_dd hD
              clear hD9
              refine lv_iinc (v := (nI (i + 1))) (lv' := [(1, .int (nI (i + 1))), (2, .int (nI s9)), (0, .ref (A 0))]) hx hb dX6_decodes_75 hl (k := 1) rfl (zinc _) (by decide) rfl (fun ls hl => ?_)
              refine lv_goto (tgt := 20) hx hb dX6_decodes_78 (by decide) ?_
              have e9 : (nI i) = (foI σ (i + 1)) := hf9
              rw [e9] at hP
              clear e9
              have e9 : (nI s9) = (deI σ (i + 1)) := hd9
              rw [e9] at hP
              clear e9
              have hP : va_P D vwCl (MX Y A σ hf hn wt wn tmS cdS (wdS σ) sy gp (ddS σ) (ag0 σ i0) (ag1 σ i1) (ag2 σ i2) (insI (trS σ) i3 (σ 0)) (foI σ (i + 1)) (deI σ (i + 1))) H := hP
              have hD : va_D FA (MX Y A σ hf hn wt wn tmS cdS (wdS σ) sy gp (ddS σ) (ag0 σ i0) (ag1 σ i1) (ag2 σ i2) (insI (trS σ) i3 (σ 0)) (foI σ (i + 1)) (deI σ (i + 1))) := MX_dd hD
              exact ih20 (i + 1) (by omega) (by omega) H locs hP hD hS ls (lv_sub hl [0, 2] rfl)
            · exact absurd c54 (by omega)
  have hP : va_P D vwCl (MX Y A σ hf hn wt wn tmS cdS (wdS σ) sy gp (ddS σ) (ag0 σ i0) (ag1 σ i1) (ag2 σ i2) (insI (trS σ) i3 (σ 0)) (foI σ 0) (deI σ 0)) H := hP
  have hD : va_D FA (MX Y A σ hf hn wt wn tmS cdS (wdS σ) sy gp (ddS σ) (ag0 σ i0) (ag1 σ i1) (ag2 σ i2) (insI (trS σ) i3 (σ 0)) (foI σ 0) (deI σ 0)) := MX_dd hD
  exact L20 (nMs σ - 0 + 1) 0 (by omega) (Nat.lt_succ_self _) _ _ hP hD hS ls (lv_sub hl [0, 1] rfl)
theorem qX6_decode_Cond_fieldLink_RX6_115_NestedCodesModel_found_I_ : Cond.fieldLink RX6 115 "NestedCodesModel" "found" "I" ∈ wsX6_decode := by decide +kernel
theorem qX6_decode_inX6 : ∀ w ∈ wsX60, w ∈ wsX6_decode := by decide +kernel
set_option maxHeartbeats 4000000 in
set_option maxRecDepth 100000 in
theorem c_X6_decode (l : Launch) (D : va_G) (Y : Nat → ClassId) (A : Nat → Nat) (σ : Nat → Nat) (hf : Nat → Nat) (hn : Nat) (wt : Nat → Nat) (wn : Nat) (sy : Nat → Nat) (gp : Nat → Nat) (i0 : Nat → Nat) (i1 : Nat → Nat) (i2 : Nat → Nat) (i3 : Nat → Nat) (fo : Int32) (de : Int32)   (kσ : zWF σ) (ksy : ∀ w9, w9 < 2 ^ (σ 2) → sy w9 = syS σ w9) (kgp : ∀ w9, w9 < 2 ^ (σ 2) → gp w9 = gpS σ w9) : Met l yX6_decode wsX6_decode ({ frames := 4, cells := 0, slots := 0, locals := 88 } : Room) (va_Pc [.ref (A 0)] (zBw D Y (MX Y A σ hf hn wt wn tmS cdS (wdS σ) sy gp (ddS σ) i0 i1 i2 i3 fo de))) (zW (some (.int (decodeV σ))) D (MX Y A σ hf hn wt wn tmS cdS (wdS σ) sy gp (ddS σ) (ag0 σ i0) (ag1 σ i1) (ag2 σ i2) (insI (trS σ) i3 (σ 0)) (decodeV σ) (decTV σ)) (zA (MX Y A σ hf hn wt wn tmS cdS (wdS σ) sy gp (ddS σ) i0 i1 i2 i3 fo de))) 0 0 (zA (MX Y A σ hf hn wt wn tmS cdS (wdS σ) sy gp (ddS σ) i0 i1 i2 i3 fo de)) := by
  refine zw_of (cc := cX6_decode) (maxL := 1) (ret := (some .int)) (by decide) rfl (Nat.le_of_ble_eq_true rfl) ?_
  intro p e s m below meth c R args Q FA hR hx hb hml hr hlk hown hts hK hN hQ hP hD hS ls hl
  have hown : s.vm.findClass RX6 = some m.cls := hown
  have hl : lv_has ls 1 [(0, .ref (A 0))] := hl
  have hS := hS
  have kw := kσ
  obtain ⟨n3, n12, d1, d3, dn, b4, b10, gl, lm, sn, wl, wnz⟩ := kw
  have pb := zp_b b10
  have pk9 := zp_k d3
  suffices hgo : ∀ (H : Heap) (locs : List Loc), va_P D vwCl (MX Y A σ hf hn wt wn tmS cdS (wdS σ) sy gp (ddS σ) i0 i1 i2 i3 fo de) H → va_S FA s.heap H locs → W p l e R s m args below meth c H locs 0 0 Q (F0 m 0 ls []) from hgo _ _ hP hS
  clear hP hS
  intro H locs hP hS
  refine lv_aload_n hx hb dX6_decode_0 rfl (lv_at hl 0 rfl) ?_
  refine zc_w (va_runV (As := []) (rest := []) ⟨hx, hb, hml, hown, hts⟩ (c_X6_decodes l D Y A σ hf hn wt wn sy gp i0 i1 i2 i3 fo de  kσ ksy kgp) (cwV 0 hts gX6_decode_X6_decodes rfl rfl rfl (by decide +kernel) (by rw [hR]; exact ⟨Nat.le_of_ble_eq_true rfl, Nat.le_of_ble_eq_true rfl⟩)) ⟨zBw_blind, va_recv hK hP (ci := 6) (q0 := 0) rfl rfl, zp_w hP hD hK hN⟩ rfl rfl hl.1 rfl (lv_room (Nat.le_of_ble_eq_true rfl)) dX6_decode_1 ⟨Nat.zero_le _, Nat.zero_le _⟩).run hS (zA_of hD) (fun H locs hP hz hk hS => ?_)
  have hD : va_D FA (MX Y A σ hf hn wt wn tmS cdS (wdS σ) sy gp (ddS σ) (ag0 σ i0) (ag1 σ i1) (ag2 σ i2) (insI (trS σ) i3 (σ 0)) (decodeV σ) (decTV σ)) := MX_dd hD
  refine lv_aload_n hx hb dX6_decode_4 rfl (lv_at hl 0 rfl) ?_
  refine va_get (D := D) (ci := 6) (v := .int (decodeV σ)) (C := RX6) (T := TX6) (N := 17) hx hb hts qX6_decode_inX6 hown hK hP 0 rfl rfl 15 (by decide) (hts _ qX6_decode_Cond_fieldLink_RX6_115_NestedCodesModel_found_I_) (fun _ h9 => h9) rfl dX6_decode_5 ?_
  exact zw_i hx hb hr hlk hQ hS dX6_decode_8 (rfl) (hP)
theorem qX6_decidingTrial_Cond_fieldLink_RX6_118_NestedCodesModel_deciding_I_ : Cond.fieldLink RX6 118 "NestedCodesModel" "deciding" "I" ∈ wsX6_decidingTrial := by decide +kernel
theorem qX6_decidingTrial_inX6 : ∀ w ∈ wsX60, w ∈ wsX6_decidingTrial := by decide +kernel
set_option maxHeartbeats 4000000 in
set_option maxRecDepth 100000 in
theorem c_X6_decidingTrial (l : Launch) (D : va_G) (Y : Nat → ClassId) (A : Nat → Nat) (σ : Nat → Nat) (hf : Nat → Nat) (hn : Nat) (wt : Nat → Nat) (wn : Nat) (sy : Nat → Nat) (gp : Nat → Nat) (i0 : Nat → Nat) (i1 : Nat → Nat) (i2 : Nat → Nat) (i3 : Nat → Nat) (fo : Int32) (de : Int32)   (kσ : zWF σ) (ksy : ∀ w9, w9 < 2 ^ (σ 2) → sy w9 = syS σ w9) (kgp : ∀ w9, w9 < 2 ^ (σ 2) → gp w9 = gpS σ w9) : Met l yX6_decidingTrial wsX6_decidingTrial ({ frames := 4, cells := 0, slots := 0, locals := 88 } : Room) (va_Pc [.ref (A 0)] (zBw D Y (MX Y A σ hf hn wt wn tmS cdS (wdS σ) sy gp (ddS σ) i0 i1 i2 i3 fo de))) (zW (some (.int (decTV σ))) D (MX Y A σ hf hn wt wn tmS cdS (wdS σ) sy gp (ddS σ) (ag0 σ i0) (ag1 σ i1) (ag2 σ i2) (insI (trS σ) i3 (σ 0)) (decodeV σ) (decTV σ)) (zA (MX Y A σ hf hn wt wn tmS cdS (wdS σ) sy gp (ddS σ) i0 i1 i2 i3 fo de))) 0 0 (zA (MX Y A σ hf hn wt wn tmS cdS (wdS σ) sy gp (ddS σ) i0 i1 i2 i3 fo de)) := by
  refine zw_of (cc := cX6_decidingTrial) (maxL := 1) (ret := (some .int)) (by decide) rfl (Nat.le_of_ble_eq_true rfl) ?_
  intro p e s m below meth c R args Q FA hR hx hb hml hr hlk hown hts hK hN hQ hP hD hS ls hl
  have hown : s.vm.findClass RX6 = some m.cls := hown
  have hl : lv_has ls 1 [(0, .ref (A 0))] := hl
  have hS := hS
  have kw := kσ
  obtain ⟨n3, n12, d1, d3, dn, b4, b10, gl, lm, sn, wl, wnz⟩ := kw
  have pb := zp_b b10
  have pk9 := zp_k d3
  suffices hgo : ∀ (H : Heap) (locs : List Loc), va_P D vwCl (MX Y A σ hf hn wt wn tmS cdS (wdS σ) sy gp (ddS σ) i0 i1 i2 i3 fo de) H → va_S FA s.heap H locs → W p l e R s m args below meth c H locs 0 0 Q (F0 m 0 ls []) from hgo _ _ hP hS
  clear hP hS
  intro H locs hP hS
  refine lv_aload_n hx hb dX6_decidingTrial_0 rfl (lv_at hl 0 rfl) ?_
  refine zc_w (va_runV (As := []) (rest := []) ⟨hx, hb, hml, hown, hts⟩ (c_X6_decodes l D Y A σ hf hn wt wn sy gp i0 i1 i2 i3 fo de  kσ ksy kgp) (cwV 0 hts gX6_decidingTrial_X6_decodes rfl rfl rfl (by decide +kernel) (by rw [hR]; exact ⟨Nat.le_of_ble_eq_true rfl, Nat.le_of_ble_eq_true rfl⟩)) ⟨zBw_blind, va_recv hK hP (ci := 6) (q0 := 0) rfl rfl, zp_w hP hD hK hN⟩ rfl rfl hl.1 rfl (lv_room (Nat.le_of_ble_eq_true rfl)) dX6_decidingTrial_1 ⟨Nat.zero_le _, Nat.zero_le _⟩).run hS (zA_of hD) (fun H locs hP hz hk hS => ?_)
  have hD : va_D FA (MX Y A σ hf hn wt wn tmS cdS (wdS σ) sy gp (ddS σ) (ag0 σ i0) (ag1 σ i1) (ag2 σ i2) (insI (trS σ) i3 (σ 0)) (decodeV σ) (decTV σ)) := MX_dd hD
  refine lv_aload_n hx hb dX6_decidingTrial_4 rfl (lv_at hl 0 rfl) ?_
  refine va_get (D := D) (ci := 6) (v := .int (decTV σ)) (C := RX6) (T := TX6) (N := 17) hx hb hts qX6_decidingTrial_inX6 hown hK hP 0 rfl rfl 16 (by decide) (hts _ qX6_decidingTrial_Cond_fieldLink_RX6_118_NestedCodesModel_deciding_I_) (fun _ h9 => h9) rfl dX6_decidingTrial_5 ?_
  exact zw_i hx hb hr hlk hQ hS dX6_decidingTrial_8 (rfl) (hP)
theorem qX6_margin_Cond_fieldLink_RX6_115_NestedCodesModel_found_I_ : Cond.fieldLink RX6 115 "NestedCodesModel" "found" "I" ∈ wsX6_margin := by decide +kernel
theorem qX6_margin_inX6 : ∀ w ∈ wsX60, w ∈ wsX6_margin := by decide +kernel
set_option maxHeartbeats 4000000 in
set_option maxRecDepth 100000 in
theorem c_X6_margin_not (l : Launch) (D : va_G) (Y : Nat → ClassId) (A : Nat → Nat) (σ : Nat → Nat) (hf : Nat → Nat) (hn : Nat) (wt : Nat → Nat) (wn : Nat) (sy : Nat → Nat) (gp : Nat → Nat) (i0 : Nat → Nat) (i1 : Nat → Nat) (i2 : Nat → Nat) (i3 : Nat → Nat) (fo : Int32) (de : Int32)   (kσ : zWF σ) (ksy : ∀ w9, w9 < 2 ^ (σ 2) → sy w9 = syS σ w9) (kgp : ∀ w9, w9 < 2 ^ (σ 2) → gp w9 = gpS σ w9) (hlm : nMs σ ≤ lawM σ) : Met l yX6_margin wsX6_margin ({ frames := 4, cells := 0, slots := 0, locals := 88 } : Room) (va_Pc [.ref (A 0)] (zBw D Y (MX Y A σ hf hn wt wn tmS cdS (wdS σ) sy gp (ddS σ) i0 i1 i2 i3 fo de))) (zW (some (.int (-1004))) D (MX Y A σ hf hn wt wn tmS cdS (wdS σ) sy gp (ddS σ) (ag0 σ i0) (ag1 σ i1) (ag2 σ i2) (insI (trS σ) i3 (σ 0)) (decodeV σ) (decTV σ)) (zA (MX Y A σ hf hn wt wn tmS cdS (wdS σ) sy gp (ddS σ) i0 i1 i2 i3 fo de))) 0 0 (zA (MX Y A σ hf hn wt wn tmS cdS (wdS σ) sy gp (ddS σ) i0 i1 i2 i3 fo de)) := by
  refine zw_of (cc := cX6_margin) (maxL := 1) (ret := (some .int)) (by decide) rfl (Nat.le_of_ble_eq_true rfl) ?_
  intro p e s m below meth c R args Q FA hR hx hb hml hr hlk hown hts hK hN hQ hP hD hS ls hl
  have hown : s.vm.findClass RX6 = some m.cls := hown
  have hl : lv_has ls 1 [(0, .ref (A 0))] := hl
  have hS := hS
  have kw := kσ
  obtain ⟨n3, n12, d1, d3, dn, b4, b10, gl, lm, sn, wl, wnz⟩ := kw
  have pb := zp_b b10
  have pk9 := zp_k d3
  suffices hgo : ∀ (H : Heap) (locs : List Loc), va_P D vwCl (MX Y A σ hf hn wt wn tmS cdS (wdS σ) sy gp (ddS σ) i0 i1 i2 i3 fo de) H → va_S FA s.heap H locs → W p l e R s m args below meth c H locs 0 0 Q (F0 m 0 ls []) from hgo _ _ hP hS
  clear hP hS
  intro H locs hP hS
  refine lv_aload_n hx hb dX6_margin_0 rfl (lv_at hl 0 rfl) ?_
  refine zc_w (va_runV (As := []) (rest := []) ⟨hx, hb, hml, hown, hts⟩ (c_X6_decodes l D Y A σ hf hn wt wn sy gp i0 i1 i2 i3 fo de  kσ ksy kgp) (cwV 0 hts gX6_margin_X6_decodes rfl rfl rfl (by decide +kernel) (by rw [hR]; exact ⟨Nat.le_of_ble_eq_true rfl, Nat.le_of_ble_eq_true rfl⟩)) ⟨zBw_blind, va_recv hK hP (ci := 6) (q0 := 0) rfl rfl, zp_w hP hD hK hN⟩ rfl rfl hl.1 rfl (lv_room (Nat.le_of_ble_eq_true rfl)) dX6_margin_1 ⟨Nat.zero_le _, Nat.zero_le _⟩).run hS (zA_of hD) (fun H locs hP hz hk hS => ?_)
  have hD : va_D FA (MX Y A σ hf hn wt wn tmS cdS (wdS σ) sy gp (ddS σ) (ag0 σ i0) (ag1 σ i1) (ag2 σ i2) (insI (trS σ) i3 (σ 0)) (decodeV σ) (decTV σ)) := MX_dd hD
  refine lv_aload_n hx hb dX6_margin_4 rfl (lv_at hl 0 rfl) ?_
  refine va_get (D := D) (ci := 6) (v := .int (decodeV σ)) (C := RX6) (T := TX6) (N := 17) hx hb hts qX6_margin_inX6 hown hK hP 0 rfl rfl 15 (by decide) (hts _ qX6_margin_Cond_fieldLink_RX6_115_NestedCodesModel_found_I_) (fun _ h9 => h9) rfl dX6_margin_5 ?_
  refine zt_i (v := (-1004)) (if_neg (by omega)) ?_
  refine zz_if_ge (tgt := 17) (a := -1004) hx hb dX6_margin_8 (by decide) (by decide) (fun c8 => ?_) (fun c8 => ?_)
  · exact absurd c8 (by omega)
  · refine lv_sipush (v := (-1004)) hx hb dX6_margin_11 (by decide) ?_
    refine lv_goto (tgt := 30) hx hb dX6_margin_14 (by decide) ?_
    exact zw_i hx hb hr hlk hQ hS dX6_margin_30 (rfl) (hP)
set_option maxHeartbeats 4000000 in
set_option maxRecDepth 100000 in
theorem c_X6_margin (l : Launch) (D : va_G) (Y : Nat → ClassId) (A : Nat → Nat) (σ : Nat → Nat) (hf : Nat → Nat) (hn : Nat) (wt : Nat → Nat) (wn : Nat) (sy : Nat → Nat) (gp : Nat → Nat) (i0 : Nat → Nat) (i1 : Nat → Nat) (i2 : Nat → Nat) (i3 : Nat → Nat) (fo : Int32) (de : Int32)   (kσ : zWF σ) (ksy : ∀ w9, w9 < 2 ^ (σ 2) → sy w9 = syS σ w9) (kgp : ∀ w9, w9 < 2 ^ (σ 2) → gp w9 = gpS σ w9) (hlm : lawM σ < nMs σ) : Met l yX6_margin wsX6_margin ({ frames := 4, cells := 0, slots := 0, locals := 88 } : Room) (va_Pc [.ref (A 0)] (zBw D Y (MX Y A σ hf hn wt wn tmS cdS (wdS σ) sy gp (ddS σ) i0 i1 i2 i3 fo de))) (zW (some (.int (zI (scS σ (lawM σ) - ((barS σ : Nat) : Int))))) D (MX Y A σ hf hn wt wn tmS cdS (wdS σ) sy gp (ddS σ) (ag0 σ i0) (ag1 σ i1) (ag2 σ i2) (insI (trS σ) i3 (σ 0)) (decodeV σ) (decTV σ)) (zA (MX Y A σ hf hn wt wn tmS cdS (wdS σ) sy gp (ddS σ) i0 i1 i2 i3 fo de))) 0 0 (zA (MX Y A σ hf hn wt wn tmS cdS (wdS σ) sy gp (ddS σ) i0 i1 i2 i3 fo de)) := by
  refine zw_of (cc := cX6_margin) (maxL := 1) (ret := (some .int)) (by decide) rfl (Nat.le_of_ble_eq_true rfl) ?_
  intro p e s m below meth c R args Q FA hR hx hb hml hr hlk hown hts hK hN hQ hP hD hS ls hl
  have hown : s.vm.findClass RX6 = some m.cls := hown
  have hl : lv_has ls 1 [(0, .ref (A 0))] := hl
  have hS := hS
  have kw := kσ
  obtain ⟨n3, n12, d1, d3, dn, b4, b10, gl, lm, sn, wl, wnz⟩ := kw
  have pb := zp_b b10
  have pk9 := zp_k d3
  suffices hgo : ∀ (H : Heap) (locs : List Loc), va_P D vwCl (MX Y A σ hf hn wt wn tmS cdS (wdS σ) sy gp (ddS σ) i0 i1 i2 i3 fo de) H → va_S FA s.heap H locs → W p l e R s m args below meth c H locs 0 0 Q (F0 m 0 ls []) from hgo _ _ hP hS
  clear hP hS
  intro H locs hP hS
  have hlm2 : lawM σ < 2 ^ (4 * σ 1) := hlm
  refine lv_aload_n hx hb dX6_margin_0 rfl (lv_at hl 0 rfl) ?_
  refine zc_w (va_runV (As := []) (rest := []) ⟨hx, hb, hml, hown, hts⟩ (c_X6_decodes l D Y A σ hf hn wt wn sy gp i0 i1 i2 i3 fo de  kσ ksy kgp) (cwV 0 hts gX6_margin_X6_decodes rfl rfl rfl (by decide +kernel) (by rw [hR]; exact ⟨Nat.le_of_ble_eq_true rfl, Nat.le_of_ble_eq_true rfl⟩)) ⟨zBw_blind, va_recv hK hP (ci := 6) (q0 := 0) rfl rfl, zp_w hP hD hK hN⟩ rfl rfl hl.1 rfl (lv_room (Nat.le_of_ble_eq_true rfl)) dX6_margin_1 ⟨Nat.zero_le _, Nat.zero_le _⟩).run hS (zA_of hD) (fun H locs hP hz hk hS => ?_)
  have hD : va_D FA (MX Y A σ hf hn wt wn tmS cdS (wdS σ) sy gp (ddS σ) (ag0 σ i0) (ag1 σ i1) (ag2 σ i2) (insI (trS σ) i3 (σ 0)) (decodeV σ) (decTV σ)) := MX_dd hD
  have kj := jCon_ju σ i0 i1 i2 i3
  refine lv_aload_n hx hb dX6_margin_4 rfl (lv_at hl 0 rfl) ?_
  refine va_get (D := D) (ci := 6) (v := .int (decodeV σ)) (C := RX6) (T := TX6) (N := 17) hx hb hts qX6_margin_inX6 hown hK hP 0 rfl rfl 15 (by decide) (hts _ qX6_margin_Cond_fieldLink_RX6_115_NestedCodesModel_found_I_) (fun _ h9 => h9) rfl dX6_margin_5 ?_
  refine zt_i (v := (nI (lawM σ))) (if_pos hlm) ?_
  refine zn_if_ge (tgt := 17)  hx hb dX6_margin_8 (by decide) (by omega) (fun c8 => ?_) (fun c8 => ?_)
  · refine lv_aload_n hx hb dX6_margin_17 rfl (lv_at hl 0 rfl) ?_
    refine lv_aload_n hx hb dX6_margin_18 rfl (lv_at hl 0 rfl) ?_
    refine va_get (D := D) (ci := 6) (v := .int (decodeV σ)) (C := RX6) (T := TX6) (N := 17) hx hb hts qX6_margin_inX6 hown hK hP 0 rfl rfl 15 (by decide) (hts _ qX6_margin_Cond_fieldLink_RX6_115_NestedCodesModel_found_I_) (fun _ h9 => h9) rfl dX6_margin_19 ?_
    refine zt_i (v := (nI (lawM σ))) (if_pos hlm) ?_
    refine zc_r (va_runV (As := [.int (nI (lawM σ))]) (rest := []) ⟨hx, hb, hml, hown, hts⟩ (c_X6_scoreOf l D Y A σ hf hn wt wn sy gp (ag0 σ i0) (ag1 σ i1) (ag2 σ i2) (insI (trS σ) i3 (σ 0)) (decodeV σ) (decTV σ) (lawM σ) kσ kj (by omega)) (cwV 1 hts gX6_margin_X6_scoreOf rfl rfl rfl (by decide +kernel) (by rw [hR]; exact ⟨Nat.le_of_ble_eq_true rfl, Nat.le_of_ble_eq_true rfl⟩)) ⟨zB_blind, va_recv hK hP (ci := 6) (q0 := 0) rfl rfl, zp_r hP hK hN⟩ rfl rfl hl.1 rfl (lv_room (Nat.le_of_ble_eq_true rfl)) dX6_margin_22 ⟨Nat.zero_le _, Nat.zero_le _⟩).run ?_
    have hsc22 := scS_b n12 (lawM σ)
    refine lv_aload_n hx hb dX6_margin_25 rfl (lv_at hl 0 rfl) ?_
    refine zc_r (va_runV (As := []) (rest := [.int (zI (scS σ (lawM σ)))]) ⟨hx, hb, hml, hown, hts⟩ (c_X6_bar l D Y A σ hf hn wt wn sy gp (ag0 σ i0) (ag1 σ i1) (ag2 σ i2) (insI (trS σ) i3 (σ 0)) (decodeV σ) (decTV σ)  kσ) (cwV 0 hts gX6_margin_X6_bar rfl rfl rfl (by decide +kernel) (by rw [hR]; exact ⟨Nat.le_of_ble_eq_true rfl, Nat.le_of_ble_eq_true rfl⟩)) ⟨zB_blind, va_recv hK hP (ci := 6) (q0 := 0) rfl rfl, zp_r hP hK hN⟩ rfl rfl hl.1 rfl (lv_room (Nat.le_of_ble_eq_true rfl)) dX6_margin_26 ⟨Nat.zero_le _, Nat.zero_le _⟩).run ?_
    have hbar26 := barS_le kσ
    refine zv_isub hx hb (v := (zI ((scS σ (lawM σ)) - ((barS σ : Nat) : Int)))) dX6_margin_29 (by rw [zI_nat]; exact zI_sub _ _) ?_
    exact zw_i hx hb hr hlk hQ hS dX6_margin_30 (rfl) (hP)
  · exact absurd c8 (by omega)
