theorem qX6_judges_Cond_fieldLink_RX6_7_NestedCodesModel_d_I_ : Cond.fieldLink RX6 7 "NestedCodesModel" "d" "[I" ∈ wsX6_judges := by decide +kernel
theorem qX6_judges_inX6 : ∀ w ∈ wsX60, w ∈ wsX6_judges := by decide +kernel
theorem qX6_judges_Cond_fieldLink_RX6_36_NestedCodesModel_its_I_ : Cond.fieldLink RX6 36 "NestedCodesModel" "its" "[I" ∈ wsX6_judges := by decide +kernel
theorem qX6_judges_Cond_fieldLink_RX6_39_NestedCodesModel_far_I_ : Cond.fieldLink RX6 39 "NestedCodesModel" "far" "[I" ∈ wsX6_judges := by decide +kernel
theorem qX6_judges_Cond_fieldLink_RX6_42_NestedCodesModel_trust_I_ : Cond.fieldLink RX6 42 "NestedCodesModel" "trust" "[I" ∈ wsX6_judges := by decide +kernel
theorem qX6_judges_Cond_fieldLink_RX6_45_NestedCodesModel_order_I_ : Cond.fieldLink RX6 45 "NestedCodesModel" "order" "[I" ∈ wsX6_judges := by decide +kernel
theorem qX6_judges_Cond_fieldLink_RX6_55_NestedCodesModel_least_I_ : Cond.fieldLink RX6 55 "NestedCodesModel" "least" "I" ∈ wsX6_judges := by decide +kernel
theorem qX6_judges_Cond_fieldLink_RX6_33_NestedCodesModel_gap_I_ : Cond.fieldLink RX6 33 "NestedCodesModel" "gap" "[I" ∈ wsX6_judges := by decide +kernel
theorem qX6_judges_Cond_fieldLink_RX6_30_NestedCodesModel_symbol_I_ : Cond.fieldLink RX6 30 "NestedCodesModel" "symbol" "[I" ∈ wsX6_judges := by decide +kernel
set_option maxHeartbeats 4000000 in
set_option maxRecDepth 100000 in
theorem c_X6_judges (l : Launch) (D : va_G) (Y : Nat → ClassId) (A : Nat → Nat) (σ : Nat → Nat) (hf : Nat → Nat) (hn : Nat) (wt : Nat → Nat) (wn : Nat) (sy : Nat → Nat) (gp : Nat → Nat) (i0 : Nat → Nat) (i1 : Nat → Nat) (i2 : Nat → Nat) (i3 : Nat → Nat) (fo : Int32) (de : Int32)   (kσ : zWF σ) (ksy : ∀ w9, w9 < 2 ^ (σ 2) → sy w9 = syS σ w9) (kgp : ∀ w9, w9 < 2 ^ (σ 2) → gp w9 = gpS σ w9) : Met l yX6_judges wsX6_judges ({ frames := 1, cells := 0, slots := 0, locals := 21 } : Room) (va_Pc [.ref (A 0)] (zBw D Y (MX Y A σ hf hn wt wn tmS cdS (wdS σ) sy gp (ddS σ) i0 i1 i2 i3 fo de))) (zW none D (MX Y A σ hf hn wt wn tmS cdS (wdS σ) sy gp (ddS σ) (ag0 σ i0) (ag1 σ i1) (ag2 σ i2) (insI (trS σ) i3 (σ 0)) fo de) (zA (MX Y A σ hf hn wt wn tmS cdS (wdS σ) sy gp (ddS σ) i0 i1 i2 i3 fo de))) 0 0 (zA (MX Y A σ hf hn wt wn tmS cdS (wdS σ) sy gp (ddS σ) i0 i1 i2 i3 fo de)) := by
  refine zw_of (cc := cX6_judges) (maxL := 3) (ret := none) (by decide) rfl (Nat.le_of_ble_eq_true rfl) ?_
  intro p e s m below meth c R args Q FA hR hx hb hml hr hlk hown hts hK hN hQ hP hD hS ls hl
  have hown : s.vm.findClass RX6 = some m.cls := hown
  have hl : lv_has ls 3 [(0, .ref (A 0))] := hl
  have hS := hS
  have kw := kσ
  obtain ⟨n3, n12, d1, d3, dn, b4, b10, gl, lm, sn, wl, wnz⟩ := kw
  have pb := zp_b b10
  have pk9 := zp_k d3
  suffices hgo : ∀ (H : Heap) (locs : List Loc), va_P D vwCl (MX Y A σ hf hn wt wn tmS cdS (wdS σ) sy gp (ddS σ) i0 i1 i2 i3 fo de) H → va_S FA s.heap H locs → W p l e R s m args below meth c H locs 0 0 Q (F0 m 0 ls []) from hgo _ _ hP hS
  clear hP hS
  intro H locs hP hS
  refine lv_iconst (v := (nI 0)) hx hb dX6_judges_0 (by decide) ?_
  refine lv_istore_n (lv' := [(1, .int (nI 0)), (0, .ref (A 0))]) hx hb dX6_judges_1 rfl hl (by decide) rfl (fun ls hl => ?_)
  have L2 : ∀ (n9 : Nat) (i : Nat) (hi : i ≤ σ 0), σ 0 - i < n9 → ∀ (H : Heap) (locs : List Loc), va_P D vwCl (MX Y A σ hf hn wt wn tmS cdS (wdS σ) sy gp (ddS σ) (zmx i (itC (wdS σ) σ) i0) (zmx i (faC (wdS σ) σ) i1) (zmx i (trC (wdS σ) (ddS σ) σ) i2) (insI (trS σ) i3 i) fo de) H → va_D FA (MX Y A σ hf hn wt wn tmS cdS (wdS σ) sy gp (ddS σ) (zmx i (itC (wdS σ) σ) i0) (zmx i (faC (wdS σ) σ) i1) (zmx i (trC (wdS σ) (ddS σ) σ) i2) (insI (trS σ) i3 i) fo de) → va_S FA s.heap H locs → ∀ ls : Array Slot, lv_has ls 3 [(1, .int (nI i)), (0, .ref (A 0))] → W p l e R s m args below meth c H locs 0 0 Q (F0 m 2 ls []) := by
    intro n9
    induction n9 with
    | zero => intro i hi hn9; exact absurd hn9 (Nat.not_lt_zero _)
    | succ n9 ih9 =>
      have ih2 := ih9
      clear ih9
      intro i hi hn9 H locs hP hD hS ls hl
      refine lv_iload_n hx hb dX6_judges_2 rfl (lv_at hl 0 rfl) ?_
      refine lv_aload_n hx hb dX6_judges_3 rfl (lv_at hl 1 rfl) ?_
      refine va_get (D := D) (ci := 6) (v := .ref (A 1)) (C := RX6) (T := TX6) (N := 17) hx hb hts qX6_judges_inX6 hown hK hP 0 rfl rfl 0 (by decide) (hts _ qX6_judges_Cond_fieldLink_RX6_7_NestedCodesModel_d_I_) (fun _ h9 => h9) rfl dX6_judges_4 ?_
      refine lv_iconst (v := (nI 0)) hx hb dX6_judges_7 (by decide) ?_
      refine za_i hx hb hK hP 1 (f := fun k9 => nI (σ k9)) (v := (nI (σ 0))) rfl (by omega) (by decide) dX6_judges_8 (rfl) ?_
      refine zn_icmp_ge (tgt := 183)  hx hb dX6_judges_9 (by decide) (by omega) (by omega) (fun c9 => ?_) (fun c9 => ?_)
      · obtain rfl : i = σ 0 := by omega
        exact zw_v hx hb hr hlk hQ hS dX6_judges_183 (hP)
      · have hw9 : σ (9 + i) < 1024 := zw_1024 kσ (by omega)
        have hfa : faS σ i ≤ 12 := faC_le (wdS σ) σ i
        have hdd := dd_le σ
        have htb := trS_le σ i
        refine lv_aload_n hx hb dX6_judges_12 rfl (lv_at hl 1 rfl) ?_
        refine va_get (D := D) (ci := 6) (v := .ref (A 9)) (C := RX6) (T := TX6) (N := 17) hx hb hts qX6_judges_inX6 hown hK hP 0 rfl rfl 11 (by decide) (hts _ qX6_judges_Cond_fieldLink_RX6_36_NestedCodesModel_its_I_) (fun _ h9 => h9) rfl dX6_judges_13 ?_
        refine lv_iload_n hx hb dX6_judges_16 rfl (lv_at hl 0 rfl) ?_
        refine lv_aload_n hx hb dX6_judges_17 rfl (lv_at hl 1 rfl) ?_
        refine lv_iload_n hx hb dX6_judges_18 rfl (lv_at hl 0 rfl) ?_
        refine zc_r (va_runV (As := [.int (nI i)]) (rest := [.int (nI i), .ref (A 9)]) ⟨hx, hb, hml, hown, hts⟩ (c_X6_isLost l D Y A σ hf hn wt wn tmS cdS (wdS σ) sy gp (ddS σ) (zmx i (itC (wdS σ) σ) i0) (zmx i (faC (wdS σ) σ) i1) (zmx i (trC (wdS σ) (ddS σ) σ) i2) (insI (trS σ) i3 i) fo de i lm (by omega)) (cwV 1 hts gX6_judges_X6_isLost rfl rfl rfl (by decide +kernel) (by rw [hR]; exact ⟨Nat.le_of_ble_eq_true rfl, Nat.le_of_ble_eq_true rfl⟩)) ⟨zB_blind, va_recv hK hP (ci := 6) (q0 := 0) rfl rfl, zp_r hP hK hN⟩ rfl rfl hl.1 rfl (lv_room (Nat.le_of_ble_eq_true rfl)) dX6_judges_19 ⟨Nat.zero_le _, Nat.zero_le _⟩).run ?_
        have J43 : W p l e R s m args below meth c H locs 0 0 Q (F0 m 43 ls [.int (nI (itS σ i)), .int (nI i), .ref (A 9)]) := by
          refine zs_i hx hb hK hP hD hS 9 (f := fun k9 => nI ((zmx i (itC (wdS σ) σ) i0) k9)) rfl (by omega) (by decide) dX6_judges_43 (fun H locs hP hD9 hS => ?_)
          rw [zupd] at hP
          rw [MX_s9] at hP
          have hP : va_P D vwCl (MX Y A σ hf hn wt wn tmS cdS (wdS σ) sy gp (ddS σ) (va_up (zmx i (itC (wdS σ) σ) i0) i (itS σ i)) (zmx i (faC (wdS σ) σ) i1) (zmx i (trC (wdS σ) (ddS σ) σ) i2) (insI (trS σ) i3 i) fo de) H := hP
          have hD : va_D FA (MX Y A σ hf hn wt wn tmS cdS (wdS σ) sy gp (ddS σ) (va_up (zmx i (itC (wdS σ) σ) i0) i (itS σ i)) (zmx i (faC (wdS σ) σ) i1) (zmx i (trC (wdS σ) (ddS σ) σ) i2) (insI (trS σ) i3 i) fo de) := MX_dd hD
          clear hD9
          have e9 : va_up (zmx i (itC (wdS σ) σ) i0) i (itS σ i) = zmx (i + 1) (itC (wdS σ) σ) i0 := zmx_up _ _ _
          rw [e9] at hP
          clear e9
          have hP : va_P D vwCl (MX Y A σ hf hn wt wn tmS cdS (wdS σ) sy gp (ddS σ) (zmx (i + 1) (itC (wdS σ) σ) i0) (zmx i (faC (wdS σ) σ) i1) (zmx i (trC (wdS σ) (ddS σ) σ) i2) (insI (trS σ) i3 i) fo de) H := hP
          have hD : va_D FA (MX Y A σ hf hn wt wn tmS cdS (wdS σ) sy gp (ddS σ) (zmx (i + 1) (itC (wdS σ) σ) i0) (zmx i (faC (wdS σ) σ) i1) (zmx i (trC (wdS σ) (ddS σ) σ) i2) (insI (trS σ) i3 i) fo de) := MX_dd hD
          refine lv_aload_n hx hb dX6_judges_44 rfl (lv_at hl 1 rfl) ?_
          refine va_get (D := D) (ci := 6) (v := .ref (A 10)) (C := RX6) (T := TX6) (N := 17) hx hb hts qX6_judges_inX6 hown hK hP 0 rfl rfl 12 (by decide) (hts _ qX6_judges_Cond_fieldLink_RX6_39_NestedCodesModel_far_I_) (fun _ h9 => h9) rfl dX6_judges_45 ?_
          refine lv_iload_n hx hb dX6_judges_48 rfl (lv_at hl 0 rfl) ?_
          refine lv_aload_n hx hb dX6_judges_49 rfl (lv_at hl 1 rfl) ?_
          refine lv_iload_n hx hb dX6_judges_50 rfl (lv_at hl 0 rfl) ?_
          refine zc_r (va_runV (As := [.int (nI i)]) (rest := [.int (nI i), .ref (A 10)]) ⟨hx, hb, hml, hown, hts⟩ (c_X6_isLost l D Y A σ hf hn wt wn tmS cdS (wdS σ) sy gp (ddS σ) (zmx (i + 1) (itC (wdS σ) σ) i0) (zmx i (faC (wdS σ) σ) i1) (zmx i (trC (wdS σ) (ddS σ) σ) i2) (insI (trS σ) i3 i) fo de i lm (by omega)) (cwV 1 hts gX6_judges_X6_isLost rfl rfl rfl (by decide +kernel) (by rw [hR]; exact ⟨Nat.le_of_ble_eq_true rfl, Nat.le_of_ble_eq_true rfl⟩)) ⟨zB_blind, va_recv hK hP (ci := 6) (q0 := 0) rfl rfl, zp_r hP hK hN⟩ rfl rfl hl.1 rfl (lv_room (Nat.le_of_ble_eq_true rfl)) dX6_judges_51 ⟨Nat.zero_le _, Nat.zero_le _⟩).run ?_
          have J75 : W p l e R s m args below meth c H locs 0 0 Q (F0 m 75 ls [.int (nI (faS σ i)), .int (nI i), .ref (A 10)]) := by
            refine zs_i hx hb hK hP hD hS 10 (f := fun k9 => nI ((zmx i (faC (wdS σ) σ) i1) k9)) rfl (by omega) (by decide) dX6_judges_75 (fun H locs hP hD9 hS => ?_)
            rw [zupd] at hP
            rw [MX_s10] at hP
            have hP : va_P D vwCl (MX Y A σ hf hn wt wn tmS cdS (wdS σ) sy gp (ddS σ) (zmx (i + 1) (itC (wdS σ) σ) i0) (va_up (zmx i (faC (wdS σ) σ) i1) i (faS σ i)) (zmx i (trC (wdS σ) (ddS σ) σ) i2) (insI (trS σ) i3 i) fo de) H := hP
            have hD : va_D FA (MX Y A σ hf hn wt wn tmS cdS (wdS σ) sy gp (ddS σ) (zmx (i + 1) (itC (wdS σ) σ) i0) (va_up (zmx i (faC (wdS σ) σ) i1) i (faS σ i)) (zmx i (trC (wdS σ) (ddS σ) σ) i2) (insI (trS σ) i3 i) fo de) := MX_dd hD
            clear hD9
            have e9 : va_up (zmx i (faC (wdS σ) σ) i1) i (faS σ i) = zmx (i + 1) (faC (wdS σ) σ) i1 := zmx_up _ _ _
            rw [e9] at hP
            clear e9
            have hP : va_P D vwCl (MX Y A σ hf hn wt wn tmS cdS (wdS σ) sy gp (ddS σ) (zmx (i + 1) (itC (wdS σ) σ) i0) (zmx (i + 1) (faC (wdS σ) σ) i1) (zmx i (trC (wdS σ) (ddS σ) σ) i2) (insI (trS σ) i3 i) fo de) H := hP
            have hD : va_D FA (MX Y A σ hf hn wt wn tmS cdS (wdS σ) sy gp (ddS σ) (zmx (i + 1) (itC (wdS σ) σ) i0) (zmx (i + 1) (faC (wdS σ) σ) i1) (zmx i (trC (wdS σ) (ddS σ) σ) i2) (insI (trS σ) i3 i) fo de) := MX_dd hD
            refine lv_aload_n hx hb dX6_judges_76 rfl (lv_at hl 1 rfl) ?_
            refine va_get (D := D) (ci := 6) (v := .ref (A 11)) (C := RX6) (T := TX6) (N := 17) hx hb hts qX6_judges_inX6 hown hK hP 0 rfl rfl 13 (by decide) (hts _ qX6_judges_Cond_fieldLink_RX6_42_NestedCodesModel_trust_I_) (fun _ h9 => h9) rfl dX6_judges_77 ?_
            refine lv_iload_n hx hb dX6_judges_80 rfl (lv_at hl 0 rfl) ?_
            refine lv_aload_n hx hb dX6_judges_81 rfl (lv_at hl 1 rfl) ?_
            refine lv_iload_n hx hb dX6_judges_82 rfl (lv_at hl 0 rfl) ?_
            refine zc_r (va_runV (As := [.int (nI i)]) (rest := [.int (nI i), .ref (A 11)]) ⟨hx, hb, hml, hown, hts⟩ (c_X6_isLost l D Y A σ hf hn wt wn tmS cdS (wdS σ) sy gp (ddS σ) (zmx (i + 1) (itC (wdS σ) σ) i0) (zmx (i + 1) (faC (wdS σ) σ) i1) (zmx i (trC (wdS σ) (ddS σ) σ) i2) (insI (trS σ) i3 i) fo de i lm (by omega)) (cwV 1 hts gX6_judges_X6_isLost rfl rfl rfl (by decide +kernel) (by rw [hR]; exact ⟨Nat.le_of_ble_eq_true rfl, Nat.le_of_ble_eq_true rfl⟩)) ⟨zB_blind, va_recv hK hP (ci := 6) (q0 := 0) rfl rfl, zp_r hP hK hN⟩ rfl rfl hl.1 rfl (lv_room (Nat.le_of_ble_eq_true rfl)) dX6_judges_83 ⟨Nat.zero_le _, Nat.zero_le _⟩).run ?_
            have J121 : W p l e R s m args below meth c H locs 0 0 Q (F0 m 121 ls [.int (nI (trS σ i)), .int (nI i), .ref (A 11)]) := by
              refine zs_i hx hb hK hP hD hS 11 (f := fun k9 => nI ((zmx i (trC (wdS σ) (ddS σ) σ) i2) k9)) rfl (by omega) (by decide) dX6_judges_121 (fun H locs hP hD9 hS => ?_)
              rw [zupd] at hP
              rw [MX_s11] at hP
              have hP : va_P D vwCl (MX Y A σ hf hn wt wn tmS cdS (wdS σ) sy gp (ddS σ) (zmx (i + 1) (itC (wdS σ) σ) i0) (zmx (i + 1) (faC (wdS σ) σ) i1) (va_up (zmx i (trC (wdS σ) (ddS σ) σ) i2) i (trS σ i)) (insI (trS σ) i3 i) fo de) H := hP
              have hD : va_D FA (MX Y A σ hf hn wt wn tmS cdS (wdS σ) sy gp (ddS σ) (zmx (i + 1) (itC (wdS σ) σ) i0) (zmx (i + 1) (faC (wdS σ) σ) i1) (va_up (zmx i (trC (wdS σ) (ddS σ) σ) i2) i (trS σ i)) (insI (trS σ) i3 i) fo de) := MX_dd hD
              clear hD9
              have e9 : va_up (zmx i (trC (wdS σ) (ddS σ) σ) i2) i (trS σ i) = zmx (i + 1) (trC (wdS σ) (ddS σ) σ) i2 := zmx_up _ _ _
              rw [e9] at hP
              clear e9
              have hP : va_P D vwCl (MX Y A σ hf hn wt wn tmS cdS (wdS σ) sy gp (ddS σ) (zmx (i + 1) (itC (wdS σ) σ) i0) (zmx (i + 1) (faC (wdS σ) σ) i1) (zmx (i + 1) (trC (wdS σ) (ddS σ) σ) i2) (insI (trS σ) i3 i) fo de) H := hP
              have hD : va_D FA (MX Y A σ hf hn wt wn tmS cdS (wdS σ) sy gp (ddS σ) (zmx (i + 1) (itC (wdS σ) σ) i0) (zmx (i + 1) (faC (wdS σ) σ) i1) (zmx (i + 1) (trC (wdS σ) (ddS σ) σ) i2) (insI (trS σ) i3 i) fo de) := MX_dd hD
              refine lv_iload_n hx hb dX6_judges_122 rfl (lv_at hl 0 rfl) ?_
              refine lv_istore_n (lv' := [(2, .int (nI i)), (1, .int (nI i)), (0, .ref (A 0))]) hx hb dX6_judges_123 rfl hl (by decide) rfl (fun ls hl => ?_)
              have L124 : ∀ (n9 : Nat) (a9 : Nat) (o9 : Nat → Nat) (ha : a9 ≤ i) (hb9 : ∀ x, x < a9 → o9 x < i) (he : insA (trS σ) i a9 o9 = insI (trS σ) i3 (i + 1)), a9 < n9 → ∀ (H : Heap) (locs : List Loc), va_P D vwCl (MX Y A σ hf hn wt wn tmS cdS (wdS σ) sy gp (ddS σ) (zmx (i + 1) (itC (wdS σ) σ) i0) (zmx (i + 1) (faC (wdS σ) σ) i1) (zmx (i + 1) (trC (wdS σ) (ddS σ) σ) i2) o9 fo de) H → va_D FA (MX Y A σ hf hn wt wn tmS cdS (wdS σ) sy gp (ddS σ) (zmx (i + 1) (itC (wdS σ) σ) i0) (zmx (i + 1) (faC (wdS σ) σ) i1) (zmx (i + 1) (trC (wdS σ) (ddS σ) σ) i2) o9 fo de) → va_S FA s.heap H locs → ∀ ls : Array Slot, lv_has ls 3 [(2, .int (nI a9)), (1, .int (nI i)), (0, .ref (A 0))] → W p l e R s m args below meth c H locs 0 0 Q (F0 m 124 ls []) := by
                intro n9
                induction n9 with
                | zero => intro a9 o9 ha hb9 he hn9; exact absurd hn9 (Nat.not_lt_zero _)
                | succ n9 ih9 =>
                  have ih124 := ih9
                  clear ih9
                  intro a9 o9 ha hb9 he hn9 H locs hP hD hS ls hl
                  refine lv_iload_n hx hb dX6_judges_124 rfl (lv_at hl 0 rfl) ?_
                  refine zn_if_le (tgt := 170)  hx hb dX6_judges_125 (by decide) (by omega) (fun c125 => ?_) (fun c125 => ?_)
                  · refine lv_aload_n hx hb dX6_judges_170 rfl (lv_at hl 2 rfl) ?_
                    refine va_get (D := D) (ci := 6) (v := .ref (A 12)) (C := RX6) (T := TX6) (N := 17) hx hb hts qX6_judges_inX6 hown hK hP 0 rfl rfl 14 (by decide) (hts _ qX6_judges_Cond_fieldLink_RX6_45_NestedCodesModel_order_I_) (fun _ h9 => h9) rfl dX6_judges_171 ?_
                    refine lv_iload_n hx hb dX6_judges_174 rfl (lv_at hl 0 rfl) ?_
                    refine lv_iload_n hx hb dX6_judges_175 rfl (lv_at hl 1 rfl) ?_
                    refine zs_i hx hb hK hP hD hS 12 (f := fun k9 => nI (o9 k9)) rfl (by omega) (by decide) dX6_judges_176 (fun H locs hP hD9 hS => ?_)
                    rw [zupd] at hP
                    rw [MX_s12] at hP
                    have hP : va_P D vwCl (MX Y A σ hf hn wt wn tmS cdS (wdS σ) sy gp (ddS σ) (zmx (i + 1) (itC (wdS σ) σ) i0) (zmx (i + 1) (faC (wdS σ) σ) i1) (zmx (i + 1) (trC (wdS σ) (ddS σ) σ) i2) (va_up o9 a9 i) fo de) H := hP
                    have hD : va_D FA (MX Y A σ hf hn wt wn tmS cdS (wdS σ) sy gp (ddS σ) (zmx (i + 1) (itC (wdS σ) σ) i0) (zmx (i + 1) (faC (wdS σ) σ) i1) (zmx (i + 1) (trC (wdS σ) (ddS σ) σ) i2) (va_up o9 a9 i) fo de) := MX_dd hD
                    clear hD9
                    refine lv_iinc (v := (nI (i + 1))) (lv' := [(1, .int (nI (i + 1))), (2, .int (nI a9)), (0, .ref (A 0))]) hx hb dX6_judges_177 hl (k := 1) rfl (zinc _) (by decide) rfl (fun ls hl => ?_)
                    refine lv_goto (tgt := 2) hx hb dX6_judges_180 (by decide) ?_
                    have e9 : (va_up o9 a9 i) = (insI (trS σ) i3 (i + 1)) := ((insA_end (by omega)).symm.trans he)
                    rw [e9] at hP
                    clear e9
                    have hP : va_P D vwCl (MX Y A σ hf hn wt wn tmS cdS (wdS σ) sy gp (ddS σ) (zmx (i + 1) (itC (wdS σ) σ) i0) (zmx (i + 1) (faC (wdS σ) σ) i1) (zmx (i + 1) (trC (wdS σ) (ddS σ) σ) i2) (insI (trS σ) i3 (i + 1)) fo de) H := hP
                    have hD : va_D FA (MX Y A σ hf hn wt wn tmS cdS (wdS σ) sy gp (ddS σ) (zmx (i + 1) (itC (wdS σ) σ) i0) (zmx (i + 1) (faC (wdS σ) σ) i1) (zmx (i + 1) (trC (wdS σ) (ddS σ) σ) i2) (insI (trS σ) i3 (i + 1)) fo de) := MX_dd hD
                    exact ih2 (i + 1) (by omega) (by omega) H locs hP hD hS ls (lv_sub hl [0, 2] rfl)
                  · have hx9 := hb9 (a9 - 1) (by omega)
                    have hta := trS_le σ (o9 (a9 - 1))
                    refine lv_aload_n hx hb dX6_judges_128 rfl (lv_at hl 2 rfl) ?_
                    refine va_get (D := D) (ci := 6) (v := .ref (A 11)) (C := RX6) (T := TX6) (N := 17) hx hb hts qX6_judges_inX6 hown hK hP 0 rfl rfl 13 (by decide) (hts _ qX6_judges_Cond_fieldLink_RX6_42_NestedCodesModel_trust_I_) (fun _ h9 => h9) rfl dX6_judges_129 ?_
                    refine lv_aload_n hx hb dX6_judges_132 rfl (lv_at hl 2 rfl) ?_
                    refine va_get (D := D) (ci := 6) (v := .ref (A 12)) (C := RX6) (T := TX6) (N := 17) hx hb hts qX6_judges_inX6 hown hK hP 0 rfl rfl 14 (by decide) (hts _ qX6_judges_Cond_fieldLink_RX6_45_NestedCodesModel_order_I_) (fun _ h9 => h9) rfl dX6_judges_133 ?_
                    refine lv_iload_n hx hb dX6_judges_136 rfl (lv_at hl 0 rfl) ?_
                    refine lv_iconst (v := (nI 1)) hx hb dX6_judges_137 (by decide) ?_
                    refine zv_isub hx hb (v := (nI (a9 - 1))) dX6_judges_138 (pk_sub (by omega)) ?_
                    refine za_i hx hb hK hP 12 (f := fun k9 => nI (o9 k9)) (v := (nI (o9 (a9 - 1)))) rfl (by omega) (by decide) dX6_judges_139 (rfl) ?_
                    refine za_i hx hb hK hP 11 (f := fun k9 => nI ((zmx (i + 1) (trC (wdS σ) (ddS σ) σ) i2) k9)) (v := (nI (trS σ (o9 (a9 - 1))))) rfl (by omega) (by decide) dX6_judges_140 (congrArg nI (zmx_in _ _ (by omega))) ?_
                    refine lv_aload_n hx hb dX6_judges_141 rfl (lv_at hl 2 rfl) ?_
                    refine va_get (D := D) (ci := 6) (v := .ref (A 11)) (C := RX6) (T := TX6) (N := 17) hx hb hts qX6_judges_inX6 hown hK hP 0 rfl rfl 13 (by decide) (hts _ qX6_judges_Cond_fieldLink_RX6_42_NestedCodesModel_trust_I_) (fun _ h9 => h9) rfl dX6_judges_142 ?_
                    refine lv_iload_n hx hb dX6_judges_145 rfl (lv_at hl 1 rfl) ?_
                    refine za_i hx hb hK hP 11 (f := fun k9 => nI ((zmx (i + 1) (trC (wdS σ) (ddS σ) σ) i2) k9)) (v := (nI (trS σ i))) rfl (by omega) (by decide) dX6_judges_146 (congrArg nI (zmx_in _ _ (by omega))) ?_
                    refine zn_icmp_le (tgt := 170)  hx hb dX6_judges_147 (by decide) (by omega) (by omega) (fun c147 => ?_) (fun c147 => ?_)
                    · refine lv_aload_n hx hb dX6_judges_170 rfl (lv_at hl 2 rfl) ?_
                      refine va_get (D := D) (ci := 6) (v := .ref (A 12)) (C := RX6) (T := TX6) (N := 17) hx hb hts qX6_judges_inX6 hown hK hP 0 rfl rfl 14 (by decide) (hts _ qX6_judges_Cond_fieldLink_RX6_45_NestedCodesModel_order_I_) (fun _ h9 => h9) rfl dX6_judges_171 ?_
                      refine lv_iload_n hx hb dX6_judges_174 rfl (lv_at hl 0 rfl) ?_
                      refine lv_iload_n hx hb dX6_judges_175 rfl (lv_at hl 1 rfl) ?_
                      refine zs_i hx hb hK hP hD hS 12 (f := fun k9 => nI (o9 k9)) rfl (by omega) (by decide) dX6_judges_176 (fun H locs hP hD9 hS => ?_)
                      rw [zupd] at hP
                      rw [MX_s12] at hP
                      have hP : va_P D vwCl (MX Y A σ hf hn wt wn tmS cdS (wdS σ) sy gp (ddS σ) (zmx (i + 1) (itC (wdS σ) σ) i0) (zmx (i + 1) (faC (wdS σ) σ) i1) (zmx (i + 1) (trC (wdS σ) (ddS σ) σ) i2) (va_up o9 a9 i) fo de) H := hP
                      have hD : va_D FA (MX Y A σ hf hn wt wn tmS cdS (wdS σ) sy gp (ddS σ) (zmx (i + 1) (itC (wdS σ) σ) i0) (zmx (i + 1) (faC (wdS σ) σ) i1) (zmx (i + 1) (trC (wdS σ) (ddS σ) σ) i2) (va_up o9 a9 i) fo de) := MX_dd hD
                      clear hD9
                      refine lv_iinc (v := (nI (i + 1))) (lv' := [(1, .int (nI (i + 1))), (2, .int (nI a9)), (0, .ref (A 0))]) hx hb dX6_judges_177 hl (k := 1) rfl (zinc _) (by decide) rfl (fun ls hl => ?_)
                      refine lv_goto (tgt := 2) hx hb dX6_judges_180 (by decide) ?_
                      have e9 : (va_up o9 a9 i) = (insI (trS σ) i3 (i + 1)) := ((insA_end (by omega)).symm.trans he)
                      rw [e9] at hP
                      clear e9
                      have hP : va_P D vwCl (MX Y A σ hf hn wt wn tmS cdS (wdS σ) sy gp (ddS σ) (zmx (i + 1) (itC (wdS σ) σ) i0) (zmx (i + 1) (faC (wdS σ) σ) i1) (zmx (i + 1) (trC (wdS σ) (ddS σ) σ) i2) (insI (trS σ) i3 (i + 1)) fo de) H := hP
                      have hD : va_D FA (MX Y A σ hf hn wt wn tmS cdS (wdS σ) sy gp (ddS σ) (zmx (i + 1) (itC (wdS σ) σ) i0) (zmx (i + 1) (faC (wdS σ) σ) i1) (zmx (i + 1) (trC (wdS σ) (ddS σ) σ) i2) (insI (trS σ) i3 (i + 1)) fo de) := MX_dd hD
                      exact ih2 (i + 1) (by omega) (by omega) H locs hP hD hS ls (lv_sub hl [0, 2] rfl)
                    · refine lv_aload_n hx hb dX6_judges_150 rfl (lv_at hl 2 rfl) ?_
                      refine va_get (D := D) (ci := 6) (v := .ref (A 12)) (C := RX6) (T := TX6) (N := 17) hx hb hts qX6_judges_inX6 hown hK hP 0 rfl rfl 14 (by decide) (hts _ qX6_judges_Cond_fieldLink_RX6_45_NestedCodesModel_order_I_) (fun _ h9 => h9) rfl dX6_judges_151 ?_
                      refine lv_iload_n hx hb dX6_judges_154 rfl (lv_at hl 0 rfl) ?_
                      refine lv_aload_n hx hb dX6_judges_155 rfl (lv_at hl 2 rfl) ?_
                      refine va_get (D := D) (ci := 6) (v := .ref (A 12)) (C := RX6) (T := TX6) (N := 17) hx hb hts qX6_judges_inX6 hown hK hP 0 rfl rfl 14 (by decide) (hts _ qX6_judges_Cond_fieldLink_RX6_45_NestedCodesModel_order_I_) (fun _ h9 => h9) rfl dX6_judges_156 ?_
                      refine lv_iload_n hx hb dX6_judges_159 rfl (lv_at hl 0 rfl) ?_
                      refine lv_iconst (v := (nI 1)) hx hb dX6_judges_160 (by decide) ?_
                      refine zv_isub hx hb (v := (nI (a9 - 1))) dX6_judges_161 (pk_sub (by omega)) ?_
                      refine za_i hx hb hK hP 12 (f := fun k9 => nI (o9 k9)) (v := (nI (o9 (a9 - 1)))) rfl (by omega) (by decide) dX6_judges_162 (rfl) ?_
                      refine zs_i hx hb hK hP hD hS 12 (f := fun k9 => nI (o9 k9)) rfl (by omega) (by decide) dX6_judges_163 (fun H locs hP hD9 hS => ?_)
                      rw [zupd] at hP
                      rw [MX_s12] at hP
                      have hP : va_P D vwCl (MX Y A σ hf hn wt wn tmS cdS (wdS σ) sy gp (ddS σ) (zmx (i + 1) (itC (wdS σ) σ) i0) (zmx (i + 1) (faC (wdS σ) σ) i1) (zmx (i + 1) (trC (wdS σ) (ddS σ) σ) i2) (va_up o9 a9 (o9 (a9 - 1))) fo de) H := hP
                      have hD : va_D FA (MX Y A σ hf hn wt wn tmS cdS (wdS σ) sy gp (ddS σ) (zmx (i + 1) (itC (wdS σ) σ) i0) (zmx (i + 1) (faC (wdS σ) σ) i1) (zmx (i + 1) (trC (wdS σ) (ddS σ) σ) i2) (va_up o9 a9 (o9 (a9 - 1))) fo de) := MX_dd hD
                      clear hD9
                      refine lv_iinc (v := (nI (a9 - 1))) (lv' := [(2, .int (nI (a9 - 1))), (1, .int (nI i)), (0, .ref (A 0))]) hx hb dX6_judges_164 hl (k := 0) rfl (zdec (by omega)) (by decide) rfl (fun ls hl => ?_)
                      refine lv_goto (tgt := 124) hx hb dX6_judges_167 (by decide) ?_
                      have hP : va_P D vwCl (MX Y A σ hf hn wt wn tmS cdS (wdS σ) sy gp (ddS σ) (zmx (i + 1) (itC (wdS σ) σ) i0) (zmx (i + 1) (faC (wdS σ) σ) i1) (zmx (i + 1) (trC (wdS σ) (ddS σ) σ) i2) ((va_up o9 a9 (o9 (a9 - 1)))) fo de) H := hP
                      have hD : va_D FA (MX Y A σ hf hn wt wn tmS cdS (wdS σ) sy gp (ddS σ) (zmx (i + 1) (itC (wdS σ) σ) i0) (zmx (i + 1) (faC (wdS σ) σ) i1) (zmx (i + 1) (trC (wdS σ) (ddS σ) σ) i2) ((va_up o9 a9 (o9 (a9 - 1)))) fo de) := MX_dd hD
                      exact ih124 (a9 - 1) (va_up o9 a9 (o9 (a9 - 1))) (by omega) (fun x hx => by unfold va_up; rw [if_neg (by omega)]; exact hb9 x (by omega)) ((insA_go9 (by omega) (by omega)).symm.trans he) (by omega) H locs hP hD hS ls (lv_sub hl [0, 1, 2] rfl)
              have hP : va_P D vwCl (MX Y A σ hf hn wt wn tmS cdS (wdS σ) sy gp (ddS σ) (zmx (i + 1) (itC (wdS σ) σ) i0) (zmx (i + 1) (faC (wdS σ) σ) i1) (zmx (i + 1) (trC (wdS σ) (ddS σ) σ) i2) ((insI (trS σ) i3 i)) fo de) H := hP
              have hD : va_D FA (MX Y A σ hf hn wt wn tmS cdS (wdS σ) sy gp (ddS σ) (zmx (i + 1) (itC (wdS σ) σ) i0) (zmx (i + 1) (faC (wdS σ) σ) i1) (zmx (i + 1) (trC (wdS σ) (ddS σ) σ) i2) ((insI (trS σ) i3 i)) fo de) := MX_dd hD
              exact L124 (i + 1) i (insI (trS σ) i3 i) (by omega) (fun x hx => insI_lt _ _ hx) (rfl) (Nat.lt_succ_self _) _ _ hP hD hS ls (lv_sub hl [0, 1, 2] rfl)
            refine zb_if_ne (tgt := 104)  hx hb dX6_judges_86 (by decide)  (fun c86 => ?_) (fun c86 => ?_)
            · refine lv_iconst (v := (nI 0)) hx hb dX6_judges_104 (by decide) ?_
              refine lv_goto (tgt := 121) hx hb dX6_judges_105 (by decide) ?_
              refine zt_i (v := (nI (trS σ i))) (by first | exact congrArg nI (if_pos (by omega)).symm | exact congrArg nI ((show (0 : Nat) = ddS σ - 2 * faS σ i by omega).trans (if_neg (by omega)).symm) | exact congrArg nI (if_neg (by omega)).symm) ?_
              exact J121
            · refine lv_aload_n hx hb dX6_judges_89 rfl (lv_at hl 1 rfl) ?_
              refine va_get (D := D) (ci := 6) (v := .int (nI (ddS σ))) (C := RX6) (T := TX6) (N := 17) hx hb hts qX6_judges_inX6 hown hK hP 0 rfl rfl 10 (by decide) (hts _ qX6_judges_Cond_fieldLink_RX6_55_NestedCodesModel_least_I_) (fun _ h9 => h9) rfl dX6_judges_90 ?_
              refine lv_iconst (v := (nI 2)) hx hb dX6_judges_93 (by decide) ?_
              refine lv_aload_n hx hb dX6_judges_94 rfl (lv_at hl 1 rfl) ?_
              refine va_get (D := D) (ci := 6) (v := .ref (A 10)) (C := RX6) (T := TX6) (N := 17) hx hb hts qX6_judges_inX6 hown hK hP 0 rfl rfl 12 (by decide) (hts _ qX6_judges_Cond_fieldLink_RX6_39_NestedCodesModel_far_I_) (fun _ h9 => h9) rfl dX6_judges_95 ?_
              refine lv_iload_n hx hb dX6_judges_98 rfl (lv_at hl 0 rfl) ?_
              refine za_i hx hb hK hP 10 (f := fun k9 => nI ((zmx (i + 1) (faC (wdS σ) σ) i1) k9)) (v := (nI (faS σ i))) rfl (by omega) (by decide) dX6_judges_99 (congrArg nI (zmx_in _ _ (by omega))) ?_
              refine zv_imul hx hb (v := (nI (2 * (faS σ i)))) dX6_judges_100 (pk_mul _ _) ?_
              refine zn_icmp_ge (tgt := 108)  hx hb dX6_judges_101 (by decide) (by omega) (by omega) (fun c101 => ?_) (fun c101 => ?_)
              · refine lv_aload_n hx hb dX6_judges_108 rfl (lv_at hl 1 rfl) ?_
                refine va_get (D := D) (ci := 6) (v := .int (nI (ddS σ))) (C := RX6) (T := TX6) (N := 17) hx hb hts qX6_judges_inX6 hown hK hP 0 rfl rfl 10 (by decide) (hts _ qX6_judges_Cond_fieldLink_RX6_55_NestedCodesModel_least_I_) (fun _ h9 => h9) rfl dX6_judges_109 ?_
                refine lv_iconst (v := (nI 2)) hx hb dX6_judges_112 (by decide) ?_
                refine lv_aload_n hx hb dX6_judges_113 rfl (lv_at hl 1 rfl) ?_
                refine va_get (D := D) (ci := 6) (v := .ref (A 10)) (C := RX6) (T := TX6) (N := 17) hx hb hts qX6_judges_inX6 hown hK hP 0 rfl rfl 12 (by decide) (hts _ qX6_judges_Cond_fieldLink_RX6_39_NestedCodesModel_far_I_) (fun _ h9 => h9) rfl dX6_judges_114 ?_
                refine lv_iload_n hx hb dX6_judges_117 rfl (lv_at hl 0 rfl) ?_
                refine za_i hx hb hK hP 10 (f := fun k9 => nI ((zmx (i + 1) (faC (wdS σ) σ) i1) k9)) (v := (nI (faS σ i))) rfl (by omega) (by decide) dX6_judges_118 (congrArg nI (zmx_in _ _ (by omega))) ?_
                refine zv_imul hx hb (v := (nI (2 * (faS σ i)))) dX6_judges_119 (pk_mul _ _) ?_
                refine zv_isub hx hb (v := (nI ((ddS σ) - (2 * (faS σ i))))) dX6_judges_120 (pk_sub (by omega)) ?_
                refine zt_i (v := (nI (trS σ i))) (by first | exact congrArg nI (if_pos (by omega)).symm | exact congrArg nI ((show (0 : Nat) = ddS σ - 2 * faS σ i by omega).trans (if_neg (by omega)).symm) | exact congrArg nI (if_neg (by omega)).symm) ?_
                exact J121
              · refine lv_iconst (v := (nI 0)) hx hb dX6_judges_104 (by decide) ?_
                refine lv_goto (tgt := 121) hx hb dX6_judges_105 (by decide) ?_
                refine zt_i (v := (nI (trS σ i))) (by first | exact congrArg nI (if_pos (by omega)).symm | exact congrArg nI ((show (0 : Nat) = ddS σ - 2 * faS σ i by omega).trans (if_neg (by omega)).symm) | exact congrArg nI (if_neg (by omega)).symm) ?_
                exact J121
          refine zb_if_eq (tgt := 61)  hx hb dX6_judges_54 (by decide)  (fun c54 => ?_) (fun c54 => ?_)
          · refine lv_aload_n hx hb dX6_judges_61 rfl (lv_at hl 1 rfl) ?_
            refine va_get (D := D) (ci := 6) (v := .ref (A 8)) (C := RX6) (T := TX6) (N := 17) hx hb hts qX6_judges_inX6 hown hK hP 0 rfl rfl 9 (by decide) (hts _ qX6_judges_Cond_fieldLink_RX6_33_NestedCodesModel_gap_I_) (fun _ h9 => h9) rfl dX6_judges_62 ?_
            refine lv_aload_n hx hb dX6_judges_65 rfl (lv_at hl 1 rfl) ?_
            refine va_get (D := D) (ci := 6) (v := .ref (A 1)) (C := RX6) (T := TX6) (N := 17) hx hb hts qX6_judges_inX6 hown hK hP 0 rfl rfl 0 (by decide) (hts _ qX6_judges_Cond_fieldLink_RX6_7_NestedCodesModel_d_I_) (fun _ h9 => h9) rfl dX6_judges_66 ?_
            refine lv_bipush (v := (nI 9)) hx hb dX6_judges_69 (by decide) ?_
            refine lv_iload_n hx hb dX6_judges_71 rfl (lv_at hl 0 rfl) ?_
            refine zv_iadd hx hb (v := (nI (9 + i))) dX6_judges_72 (nI_add _ _) ?_
            refine za_i hx hb hK hP 1 (f := fun k9 => nI (σ k9)) (v := (nI (σ (9 + i)))) rfl (by omega) (by decide) dX6_judges_73 (rfl) ?_
            refine za_i hx hb hK hP 8 (f := fun k9 => nI (gp k9)) (v := (nI (gp (σ (9 + i))))) rfl (by omega) (by decide) dX6_judges_74 (rfl) ?_
            refine zt_i (v := (nI (faS σ i))) (by first | exact congrArg nI (if_pos (by omega)).symm | exact congrArg nI ((kgp _ (wl i (by omega))).trans (if_neg (by omega)).symm)) ?_
            exact J75
          · refine lv_iconst (v := (nI 0)) hx hb dX6_judges_57 (by decide) ?_
            refine lv_goto (tgt := 75) hx hb dX6_judges_58 (by decide) ?_
            refine zt_i (v := (nI (faS σ i))) (by first | exact congrArg nI (if_pos (by omega)).symm | exact congrArg nI ((kgp _ (wl i (by omega))).trans (if_neg (by omega)).symm)) ?_
            exact J75
        refine zb_if_eq (tgt := 29)  hx hb dX6_judges_22 (by decide)  (fun c22 => ?_) (fun c22 => ?_)
        · refine lv_aload_n hx hb dX6_judges_29 rfl (lv_at hl 1 rfl) ?_
          refine va_get (D := D) (ci := 6) (v := .ref (A 7)) (C := RX6) (T := TX6) (N := 17) hx hb hts qX6_judges_inX6 hown hK hP 0 rfl rfl 8 (by decide) (hts _ qX6_judges_Cond_fieldLink_RX6_30_NestedCodesModel_symbol_I_) (fun _ h9 => h9) rfl dX6_judges_30 ?_
          refine lv_aload_n hx hb dX6_judges_33 rfl (lv_at hl 1 rfl) ?_
          refine va_get (D := D) (ci := 6) (v := .ref (A 1)) (C := RX6) (T := TX6) (N := 17) hx hb hts qX6_judges_inX6 hown hK hP 0 rfl rfl 0 (by decide) (hts _ qX6_judges_Cond_fieldLink_RX6_7_NestedCodesModel_d_I_) (fun _ h9 => h9) rfl dX6_judges_34 ?_
          refine lv_bipush (v := (nI 9)) hx hb dX6_judges_37 (by decide) ?_
          refine lv_iload_n hx hb dX6_judges_39 rfl (lv_at hl 0 rfl) ?_
          refine zv_iadd hx hb (v := (nI (9 + i))) dX6_judges_40 (nI_add _ _) ?_
          refine za_i hx hb hK hP 1 (f := fun k9 => nI (σ k9)) (v := (nI (σ (9 + i)))) rfl (by omega) (by decide) dX6_judges_41 (rfl) ?_
          refine za_i hx hb hK hP 7 (f := fun k9 => nI (sy k9)) (v := (nI (sy (σ (9 + i))))) rfl (by omega) (by decide) dX6_judges_42 (rfl) ?_
          refine zt_i (v := (nI (itS σ i))) (by first | exact congrArg nI (if_pos (by omega)).symm | exact congrArg nI ((ksy _ (wl i (by omega))).trans (if_neg (by omega)).symm)) ?_
          exact J43
        · refine lv_iconst (v := (nI 0)) hx hb dX6_judges_25 (by decide) ?_
          refine lv_goto (tgt := 43) hx hb dX6_judges_26 (by decide) ?_
          refine zt_i (v := (nI (itS σ i))) (by first | exact congrArg nI (if_pos (by omega)).symm | exact congrArg nI ((ksy _ (wl i (by omega))).trans (if_neg (by omega)).symm)) ?_
          exact J43
  have e9 : i0 = (zmx 0 (itC (wdS σ) σ) i0) := (zmx_0 _ _).symm
  rw [e9] at hP
  clear e9
  have e9 : i1 = (zmx 0 (faC (wdS σ) σ) i1) := (zmx_0 _ _).symm
  rw [e9] at hP
  clear e9
  have e9 : i2 = (zmx 0 (trC (wdS σ) (ddS σ) σ) i2) := (zmx_0 _ _).symm
  rw [e9] at hP
  clear e9
  have hP : va_P D vwCl (MX Y A σ hf hn wt wn tmS cdS (wdS σ) sy gp (ddS σ) (zmx 0 (itC (wdS σ) σ) i0) (zmx 0 (faC (wdS σ) σ) i1) (zmx 0 (trC (wdS σ) (ddS σ) σ) i2) (insI (trS σ) i3 0) fo de) H := hP
  have hD : va_D FA (MX Y A σ hf hn wt wn tmS cdS (wdS σ) sy gp (ddS σ) (zmx 0 (itC (wdS σ) σ) i0) (zmx 0 (faC (wdS σ) σ) i1) (zmx 0 (trC (wdS σ) (ddS σ) σ) i2) (insI (trS σ) i3 0) fo de) := MX_dd hD
  exact L2 (σ 0 - 0 + 1) 0 (by omega) (Nat.lt_succ_self _) _ _ hP hD hS ls (lv_sub hl [0, 1] rfl)
theorem qX6_scoreOf_Cond_fieldLink_RX6_7_NestedCodesModel_d_I_ : Cond.fieldLink RX6 7 "NestedCodesModel" "d" "[I" ∈ wsX6_scoreOf := by decide +kernel
theorem qX6_scoreOf_inX6 : ∀ w ∈ wsX60, w ∈ wsX6_scoreOf := by decide +kernel
theorem qX6_scoreOf_Cond_fieldLink_RX6_36_NestedCodesModel_its_I_ : Cond.fieldLink RX6 36 "NestedCodesModel" "its" "[I" ∈ wsX6_scoreOf := by decide +kernel
theorem qX6_scoreOf_Cond_fieldLink_RX6_23_NestedCodesModel_code_B_ : Cond.fieldLink RX6 23 "NestedCodesModel" "code" "[B" ∈ wsX6_scoreOf := by decide +kernel
theorem qX6_scoreOf_Cond_fieldLink_RX6_42_NestedCodesModel_trust_I_ : Cond.fieldLink RX6 42 "NestedCodesModel" "trust" "[I" ∈ wsX6_scoreOf := by decide +kernel
set_option maxHeartbeats 4000000 in
set_option maxRecDepth 100000 in
theorem c_X6_scoreOf (l : Launch) (D : va_G) (Y : Nat → ClassId) (A : Nat → Nat) (σ : Nat → Nat) (hf : Nat → Nat) (hn : Nat) (wt : Nat → Nat) (wn : Nat) (sy : Nat → Nat) (gp : Nat → Nat) (i0 : Nat → Nat) (i1 : Nat → Nat) (i2 : Nat → Nat) (i3 : Nat → Nat) (fo : Int32) (de : Int32) (m9 : Nat)  (kσ : zWF σ) (kj : jCon σ i0 i1 i2 i3) (hm : m9 < 4096) : Met l yX6_scoreOf wsX6_scoreOf ({ frames := 0, cells := 0, slots := 0, locals := 0 } : Room) (va_Pc [.ref (A 0), .int (nI m9)] (zB D Y (MX Y A σ hf hn wt wn tmS cdS (wdS σ) sy gp (ddS σ) i0 i1 i2 i3 fo de))) (zR (.int (zI (scS σ m9)))) 0 0 (fun _ => False) := by
  refine zr_of (cc := cX6_scoreOf) (maxL := 4) (ret := (some .int)) (by decide) rfl (Nat.le_of_ble_eq_true rfl) ?_
  intro p e s m below meth c R args Q hR hx hb hml hr hlk hown hts hK hN hP hQ ls hl
  have hown : s.vm.findClass RX6 = some m.cls := hown
  have hl : lv_has ls 4 [(0, .ref (A 0)), (1, .int (nI m9))] := hl
  have kw := kσ
  obtain ⟨n3, n12, d1, d3, dn, b4, b10, gl, lm, sn, wl, wnz⟩ := kw
  have pb := zp_b b10
  have pk9 := zp_k d3
  refine lv_iconst (v := (nI 0)) hx hb dX6_scoreOf_0 (by decide) ?_
  refine lv_istore_n (lv' := [(2, .int (nI 0)), (0, .ref (A 0)), (1, .int (nI m9))]) hx hb dX6_scoreOf_1 rfl hl (by decide) rfl (fun ls hl => ?_)
  refine lv_iconst (v := (nI 0)) hx hb dX6_scoreOf_2 (by decide) ?_
  refine lv_istore_n (lv' := [(3, .int (nI 0)), (2, .int (nI 0)), (0, .ref (A 0)), (1, .int (nI m9))]) hx hb dX6_scoreOf_3 rfl hl (by decide) rfl (fun ls hl => ?_)
  have L4 : ∀ (n9 : Nat) (i : Nat) (hi : i ≤ σ 0), σ 0 - i < n9 → ∀ ls : Array Slot, lv_has ls 4 [(3, .int (nI i)), (2, .int (zI (scC (difB σ m9) (trS σ) i))), (0, .ref (A 0)), (1, .int (nI m9))] → W p l e R s m args below meth c s.heap [] 0 0 Q (F0 m 4 ls []) := by
    intro n9
    induction n9 with
    | zero => intro i hi hn9; exact absurd hn9 (Nat.not_lt_zero _)
    | succ n9 ih9 =>
      have ih4 := ih9
      clear ih9
      intro i hi hn9 ls hl
      have htb := trS_le σ i
      refine lv_iload_n hx hb dX6_scoreOf_4 rfl (lv_at hl 0 rfl) ?_
      refine lv_aload_n hx hb dX6_scoreOf_5 rfl (lv_at hl 2 rfl) ?_
      refine va_get (D := D) (ci := 6) (v := .ref (A 1)) (C := RX6) (T := TX6) (N := 17) hx hb hts qX6_scoreOf_inX6 hown hK hP 0 rfl rfl 0 (by decide) (hts _ qX6_scoreOf_Cond_fieldLink_RX6_7_NestedCodesModel_d_I_) (fun _ h9 => h9) rfl dX6_scoreOf_6 ?_
      refine lv_iconst (v := (nI 0)) hx hb dX6_scoreOf_9 (by decide) ?_
      refine za_i hx hb hK hP 1 (f := fun k9 => nI (σ k9)) (v := (nI (σ 0))) rfl (by omega) (by decide) dX6_scoreOf_10 (rfl) ?_
      refine zn_icmp_ge (tgt := 59)  hx hb dX6_scoreOf_11 (by decide) (by omega) (by omega) (fun c11 => ?_) (fun c11 => ?_)
      · obtain rfl : i = σ 0 := by omega
        refine lv_iload_n hx hb dX6_scoreOf_59 rfl (lv_at hl 1 rfl) ?_
        exact zr_i hx hb hr hlk hQ dX6_scoreOf_60 (rfl)
      · refine lv_iload_n hx hb dX6_scoreOf_14 rfl (lv_at hl 1 rfl) ?_
        refine lv_aload_n hx hb dX6_scoreOf_15 rfl (lv_at hl 2 rfl) ?_
        refine va_get (D := D) (ci := 6) (v := .ref (A 9)) (C := RX6) (T := TX6) (N := 17) hx hb hts qX6_scoreOf_inX6 hown hK hP 0 rfl rfl 11 (by decide) (hts _ qX6_scoreOf_Cond_fieldLink_RX6_36_NestedCodesModel_its_I_) (fun _ h9 => h9) rfl dX6_scoreOf_16 ?_
        refine lv_iload_n hx hb dX6_scoreOf_19 rfl (lv_at hl 0 rfl) ?_
        refine za_i hx hb hK hP 9 (f := fun k9 => nI (i0 k9)) (v := (nI (itS σ i))) rfl (by omega) (by decide) dX6_scoreOf_20 (congrArg nI (kj i (by omega)).1) ?_
        refine lv_aload_n hx hb dX6_scoreOf_21 rfl (lv_at hl 2 rfl) ?_
        refine va_get (D := D) (ci := 6) (v := .ref (A 5)) (C := RX6) (T := TX6) (N := 17) hx hb hts qX6_scoreOf_inX6 hown hK hP 0 rfl rfl 6 (by decide) (hts _ qX6_scoreOf_Cond_fieldLink_RX6_23_NestedCodesModel_code_B_) (fun _ h9 => h9) rfl dX6_scoreOf_22 ?_
        refine lv_bipush (v := (nI 12)) hx hb dX6_scoreOf_25 (by decide) ?_
        refine lv_iload_n hx hb dX6_scoreOf_27 rfl (lv_at hl 3 rfl) ?_
        refine zv_imul hx hb (v := (nI (12 * m9))) dX6_scoreOf_28 (pk_mul _ _) ?_
        refine lv_iload_n hx hb dX6_scoreOf_29 rfl (lv_at hl 0 rfl) ?_
        refine zv_iadd hx hb (v := (nI ((12 * m9) + i))) dX6_scoreOf_30 (nI_add _ _) ?_
        refine za_b hx hb hK hP 5 (f := fun k9 => nI (cdS k9)) (v := (nI (zcw m9 i))) rfl (by omega) (by decide) dX6_scoreOf_31 (congrArg nI (cdS_at m9 (by omega))) ?_
        have hz9 : zcw m9 i < 16 := zcw_lt hm (by omega)
        have hi9 := itS_lt σ i
        have J51 : W p l e R s m args below meth c s.heap [] 0 0 Q (F0 m 51 ls [.int (zI (if difB σ m9 i = true then -((trS σ i : Nat) : Int) else ((trS σ i : Nat) : Int))), .int (zI (scC (difB σ m9) (trS σ) i))]) := by
          refine zv_iadd hx hb (v := (zI ((scC (difB σ m9) (trS σ) i) + (if difB σ m9 i = true then -((trS σ i : Nat) : Int) else ((trS σ i : Nat) : Int))))) dX6_scoreOf_51 (by exact zI_add _ _) ?_
          refine lv_istore_n (lv' := [(2, .int (zI ((scC (difB σ m9) (trS σ) i) + (if difB σ m9 i = true then -((trS σ i : Nat) : Int) else ((trS σ i : Nat) : Int))))), (3, .int (nI i)), (0, .ref (A 0)), (1, .int (nI m9))]) hx hb dX6_scoreOf_52 rfl hl (by decide) rfl (fun ls hl => ?_)
          refine lv_iinc (v := (nI (i + 1))) (lv' := [(3, .int (nI (i + 1))), (2, .int (zI ((scC (difB σ m9) (trS σ) i) + (if difB σ m9 i = true then -((trS σ i : Nat) : Int) else ((trS σ i : Nat) : Int))))), (0, .ref (A 0)), (1, .int (nI m9))]) hx hb dX6_scoreOf_53 hl (k := 1) rfl (zinc _) (by decide) rfl (fun ls hl => ?_)
          refine lv_goto (tgt := 4) hx hb dX6_scoreOf_56 (by decide) ?_
          exact ih4 (i + 1) (by omega) (by omega) ls (lv_sub hl [0, 1, 2, 3] rfl)
        refine zn_icmp_ne (tgt := 44)  hx hb dX6_scoreOf_32 (by decide) (by omega) (by omega) (fun c32 => ?_) (fun c32 => ?_)
        · refine lv_aload_n hx hb dX6_scoreOf_44 rfl (lv_at hl 2 rfl) ?_
          refine va_get (D := D) (ci := 6) (v := .ref (A 11)) (C := RX6) (T := TX6) (N := 17) hx hb hts qX6_scoreOf_inX6 hown hK hP 0 rfl rfl 13 (by decide) (hts _ qX6_scoreOf_Cond_fieldLink_RX6_42_NestedCodesModel_trust_I_) (fun _ h9 => h9) rfl dX6_scoreOf_45 ?_
          refine lv_iload_n hx hb dX6_scoreOf_48 rfl (lv_at hl 0 rfl) ?_
          refine za_i hx hb hK hP 11 (f := fun k9 => nI (i2 k9)) (v := (nI (trS σ i))) rfl (by omega) (by decide) dX6_scoreOf_49 (congrArg nI (kj i (by omega)).2.2.1) ?_
          refine zv_ineg hx hb (v := (zI (-((trS σ i : Nat) : Int)))) dX6_scoreOf_50 (by rw [zI_nat]; exact zI_neg _) ?_
          refine zt_i (v := (zI (if difB σ m9 i = true then -((trS σ i : Nat) : Int) else ((trS σ i : Nat) : Int)))) (by first | (rw [zI_nat]; exact congrArg zI (if_neg (by rw [difB_f (by omega) (by omega)]; decide)).symm) | exact congrArg zI (if_pos (difB_t (by omega) (by omega))).symm) ?_
          exact J51
        · refine lv_aload_n hx hb dX6_scoreOf_35 rfl (lv_at hl 2 rfl) ?_
          refine va_get (D := D) (ci := 6) (v := .ref (A 11)) (C := RX6) (T := TX6) (N := 17) hx hb hts qX6_scoreOf_inX6 hown hK hP 0 rfl rfl 13 (by decide) (hts _ qX6_scoreOf_Cond_fieldLink_RX6_42_NestedCodesModel_trust_I_) (fun _ h9 => h9) rfl dX6_scoreOf_36 ?_
          refine lv_iload_n hx hb dX6_scoreOf_39 rfl (lv_at hl 0 rfl) ?_
          refine za_i hx hb hK hP 11 (f := fun k9 => nI (i2 k9)) (v := (nI (trS σ i))) rfl (by omega) (by decide) dX6_scoreOf_40 (congrArg nI (kj i (by omega)).2.2.1) ?_
          refine lv_goto (tgt := 51) hx hb dX6_scoreOf_41 (by decide) ?_
          refine zt_i (v := (zI (if difB σ m9 i = true then -((trS σ i : Nat) : Int) else ((trS σ i : Nat) : Int)))) (by first | (rw [zI_nat]; exact congrArg zI (if_neg (by rw [difB_f (by omega) (by omega)]; decide)).symm) | exact congrArg zI (if_pos (difB_t (by omega) (by omega))).symm) ?_
          exact J51
  rw [show (.int (nI 0) : Value) = .int (zI (scC (difB σ m9) (trS σ) 0)) from congrArg _ (zI_nat 0)] at hl
  exact L4 (σ 0 - 0 + 1) 0 (by omega) (Nat.lt_succ_self _) ls (lv_sub hl [0, 1, 2, 3] rfl)
theorem qX6_bar_Cond_fieldLink_RX6_55_NestedCodesModel_least_I_ : Cond.fieldLink RX6 55 "NestedCodesModel" "least" "I" ∈ wsX6_bar := by decide +kernel
theorem qX6_bar_inX6 : ∀ w ∈ wsX60, w ∈ wsX6_bar := by decide +kernel
theorem qX6_bar_Cond_fieldLink_RX6_7_NestedCodesModel_d_I_ : Cond.fieldLink RX6 7 "NestedCodesModel" "d" "[I" ∈ wsX6_bar := by decide +kernel
set_option maxHeartbeats 4000000 in
set_option maxRecDepth 100000 in
theorem c_X6_bar (l : Launch) (D : va_G) (Y : Nat → ClassId) (A : Nat → Nat) (σ : Nat → Nat) (hf : Nat → Nat) (hn : Nat) (wt : Nat → Nat) (wn : Nat) (sy : Nat → Nat) (gp : Nat → Nat) (i0 : Nat → Nat) (i1 : Nat → Nat) (i2 : Nat → Nat) (i3 : Nat → Nat) (fo : Int32) (de : Int32)   (kσ : zWF σ) : Met l yX6_bar wsX6_bar ({ frames := 1, cells := 0, slots := 0, locals := 20 } : Room) (va_Pc [.ref (A 0)] (zB D Y (MX Y A σ hf hn wt wn tmS cdS (wdS σ) sy gp (ddS σ) i0 i1 i2 i3 fo de))) (zR (.int (nI (barS σ)))) 0 0 (fun _ => False) := by
  refine zr_of (cc := cX6_bar) (maxL := 1) (ret := (some .int)) (by decide) rfl (Nat.le_of_ble_eq_true rfl) ?_
  intro p e s m below meth c R args Q hR hx hb hml hr hlk hown hts hK hN hP hQ ls hl
  have hown : s.vm.findClass RX6 = some m.cls := hown
  have hl : lv_has ls 1 [(0, .ref (A 0))] := hl
  have kw := kσ
  obtain ⟨n3, n12, d1, d3, dn, b4, b10, gl, lm, sn, wl, wnz⟩ := kw
  have pb := zp_b b10
  have pk9 := zp_k d3
  have hdd := dd_le σ
  refine lv_aload_n hx hb dX6_bar_0 rfl (lv_at hl 0 rfl) ?_
  refine va_get (D := D) (ci := 6) (v := .int (nI (ddS σ))) (C := RX6) (T := TX6) (N := 17) hx hb hts qX6_bar_inX6 hown hK hP 0 rfl rfl 10 (by decide) (hts _ qX6_bar_Cond_fieldLink_RX6_55_NestedCodesModel_least_I_) (fun _ h9 => h9) rfl dX6_bar_1 ?_
  refine lv_aload_n hx hb dX6_bar_4 rfl (lv_at hl 0 rfl) ?_
  refine va_get (D := D) (ci := 6) (v := .ref (A 1)) (C := RX6) (T := TX6) (N := 17) hx hb hts qX6_bar_inX6 hown hK hP 0 rfl rfl 0 (by decide) (hts _ qX6_bar_Cond_fieldLink_RX6_7_NestedCodesModel_d_I_) (fun _ h9 => h9) rfl dX6_bar_5 ?_
  refine lv_iconst (v := (nI 0)) hx hb dX6_bar_8 (by decide) ?_
  refine za_i hx hb hK hP 1 (f := fun k9 => nI (σ k9)) (v := (nI (σ 0))) rfl (by omega) (by decide) dX6_bar_9 (rfl) ?_
  refine lv_aload_n hx hb dX6_bar_10 rfl (lv_at hl 0 rfl) ?_
  refine zc_r (va_runV (As := []) (rest := [.int (nI (σ 0)), .int (nI (ddS σ))]) ⟨hx, hb, hml, hown, hts⟩ (c_X6_distance l D Y A σ hf hn wt wn tmS cdS (wdS σ) sy gp (ddS σ) i0 i1 i2 i3 fo de  kσ) (cwV 0 hts gX6_bar_X6_distance rfl rfl rfl (by decide +kernel) (by rw [hR]; exact ⟨Nat.le_of_ble_eq_true rfl, Nat.le_of_ble_eq_true rfl⟩)) ⟨zB_blind, va_recv hK hP (ci := 6) (q0 := 0) rfl rfl, zp_r hP hK hN⟩ rfl rfl hl.1 rfl (lv_room (Nat.le_of_ble_eq_true rfl)) dX6_bar_11 ⟨Nat.zero_le _, Nat.zero_le _⟩).run ?_
  refine zv_isub hx hb (v := (nI ((σ 0) - (σ 0 - σ 1 + 1)))) dX6_bar_14 (pk_sub (by omega)) ?_
  refine zv_imul hx hb (v := (nI ((ddS σ) * ((σ 0) - (σ 0 - σ 1 + 1))))) dX6_bar_15 (pk_mul _ _) ?_
  exact zr_i hx hb hr hlk hQ dX6_bar_16 (rfl)
theorem qX6_isResult_Cond_fieldLink_RX6_7_NestedCodesModel_d_I_ : Cond.fieldLink RX6 7 "NestedCodesModel" "d" "[I" ∈ wsX6_isResult := by decide +kernel
theorem qX6_isResult_inX6 : ∀ w ∈ wsX60, w ∈ wsX6_isResult := by decide +kernel
theorem qX6_isResult_Cond_fieldLink_RX6_36_NestedCodesModel_its_I_ : Cond.fieldLink RX6 36 "NestedCodesModel" "its" "[I" ∈ wsX6_isResult := by decide +kernel
theorem qX6_isResult_Cond_fieldLink_RX6_45_NestedCodesModel_order_I_ : Cond.fieldLink RX6 45 "NestedCodesModel" "order" "[I" ∈ wsX6_isResult := by decide +kernel
theorem qX6_isResult_Cond_fieldLink_RX6_23_NestedCodesModel_code_B_ : Cond.fieldLink RX6 23 "NestedCodesModel" "code" "[B" ∈ wsX6_isResult := by decide +kernel
set_option maxHeartbeats 4000000 in
set_option maxRecDepth 100000 in
theorem c_X6_isResult (l : Launch) (D : va_G) (Y : Nat → ClassId) (A : Nat → Nat) (σ : Nat → Nat) (hf : Nat → Nat) (hn : Nat) (wt : Nat → Nat) (wn : Nat) (sy : Nat → Nat) (gp : Nat → Nat) (i0 : Nat → Nat) (i1 : Nat → Nat) (i2 : Nat → Nat) (i3 : Nat → Nat) (fo : Int32) (de : Int32) (m9 : Nat) (t9 : Nat)  (kσ : zWF σ) (kj : jCon σ i0 i1 i2 i3) (hm : m9 < 4096) (ht : t9 ≤ σ 0) : Met l yX6_isResult wsX6_isResult ({ frames := 1, cells := 0, slots := 0, locals := 20 } : Room) (va_Pc [.ref (A 0), .int (nI m9), .int (nI t9)] (zB D Y (MX Y A σ hf hn wt wn tmS cdS (wdS σ) sy gp (ddS σ) i0 i1 i2 i3 fo de))) (zR (.int (zq (resB σ t9 m9 = true)))) 0 0 (fun _ => False) := by
  refine zr_of (cc := cX6_isResult) (maxL := 5) (ret := (some .boolean)) (by decide) rfl (Nat.le_of_ble_eq_true rfl) ?_
  intro p e s m below meth c R args Q hR hx hb hml hr hlk hown hts hK hN hP hQ ls hl
  have hown : s.vm.findClass RX6 = some m.cls := hown
  have hl : lv_has ls 5 [(0, .ref (A 0)), (1, .int (nI m9)), (2, .int (nI t9))] := hl
  have kw := kσ
  obtain ⟨n3, n12, d1, d3, dn, b4, b10, gl, lm, sn, wl, wnz⟩ := kw
  have pb := zp_b b10
  have pk9 := zp_k d3
  refine lv_iconst (v := (nI 0)) hx hb dX6_isResult_0 (by decide) ?_
  refine lv_istore_n (lv' := [(3, .int (nI 0)), (0, .ref (A 0)), (1, .int (nI m9)), (2, .int (nI t9))]) hx hb dX6_isResult_1 rfl hl (by decide) rfl (fun ls hl => ?_)
  refine lv_iload_n hx hb dX6_isResult_2 rfl (lv_at hl 3 rfl) ?_
  refine lv_istore (lv' := [(4, .int (nI t9)), (3, .int (nI 0)), (0, .ref (A 0)), (1, .int (nI m9)), (2, .int (nI t9))]) hx hb dX6_isResult_3 hl (by decide) rfl (fun ls hl => ?_)
  have L5 : ∀ (n9 : Nat) (t : Nat) (ht2 : t9 + t ≤ σ 0), σ 0 - t9 - t < n9 → ∀ ls : Array Slot, lv_has ls 5 [(4, .int (nI (t9 + t))), (3, .int (nI (erI σ m9 i3 t9 t))), (0, .ref (A 0)), (1, .int (nI m9)), (2, .int (nI t9))] → W p l e R s m args below meth c s.heap [] 0 0 Q (F0 m 5 ls []) := by
    intro n9
    induction n9 with
    | zero => intro t ht2 hn9; exact absurd hn9 (Nat.not_lt_zero _)
    | succ n9 ih9 =>
      have ih5 := ih9
      clear ih9
      intro t ht2 hn9 ls hl
      have her := erI_le σ m9 i3 t9 t
      refine lv_iload hx hb dX6_isResult_5 (lv_at hl 0 rfl) ?_
      refine lv_aload_n hx hb dX6_isResult_7 rfl (lv_at hl 2 rfl) ?_
      refine va_get (D := D) (ci := 6) (v := .ref (A 1)) (C := RX6) (T := TX6) (N := 17) hx hb hts qX6_isResult_inX6 hown hK hP 0 rfl rfl 0 (by decide) (hts _ qX6_isResult_Cond_fieldLink_RX6_7_NestedCodesModel_d_I_) (fun _ h9 => h9) rfl dX6_isResult_8 ?_
      refine lv_iconst (v := (nI 0)) hx hb dX6_isResult_11 (by decide) ?_
      refine za_i hx hb hK hP 1 (f := fun k9 => nI (σ k9)) (v := (nI (σ 0))) rfl (by omega) (by decide) dX6_isResult_12 (rfl) ?_
      refine zn_icmp_ge (tgt := 62)  hx hb dX6_isResult_13 (by decide) (by omega) (by omega) (fun c13 => ?_) (fun c13 => ?_)
      · obtain rfl : t = σ 0 - t9 := by omega
        refine lv_iconst (v := (nI 2)) hx hb dX6_isResult_62 (by decide) ?_
        refine lv_iload_n hx hb dX6_isResult_63 rfl (lv_at hl 1 rfl) ?_
        refine zv_imul hx hb (v := (nI (2 * (erI σ m9 i3 t9 (σ 0 - t9))))) dX6_isResult_64 (pk_mul _ _) ?_
        refine lv_iload_n hx hb dX6_isResult_65 rfl (lv_at hl 4 rfl) ?_
        refine zv_iadd hx hb (v := (nI ((2 * (erI σ m9 i3 t9 (σ 0 - t9))) + t9))) dX6_isResult_66 (nI_add _ _) ?_
        refine lv_aload_n hx hb dX6_isResult_67 rfl (lv_at hl 2 rfl) ?_
        refine zc_r (va_runV (As := []) (rest := [.int (nI ((2 * (erI σ m9 i3 t9 (σ 0 - t9))) + t9))]) ⟨hx, hb, hml, hown, hts⟩ (c_X6_distance l D Y A σ hf hn wt wn tmS cdS (wdS σ) sy gp (ddS σ) i0 i1 i2 i3 fo de  kσ) (cwV 0 hts gX6_isResult_X6_distance rfl rfl rfl (by decide +kernel) (by rw [hR]; exact ⟨Nat.le_of_ble_eq_true rfl, Nat.le_of_ble_eq_true rfl⟩)) ⟨zB_blind, va_recv hK hP (ci := 6) (q0 := 0) rfl rfl, zp_r hP hK hN⟩ rfl rfl hl.1 rfl (lv_room (Nat.le_of_ble_eq_true rfl)) dX6_isResult_68 ⟨Nat.zero_le _, Nat.zero_le _⟩).run ?_
        have J79 : W p l e R s m args below meth c s.heap [] 0 0 Q (F0 m 79 ls [.int (zq (resB σ t9 m9 = true))]) := by
          exact zr_z hx hb hr hlk hQ dX6_isResult_79 (rfl) (by first | exact zq_or _ | decide)
        refine zn_icmp_ge (tgt := 78)  hx hb dX6_isResult_71 (by decide) (by omega) (by omega) (fun c71 => ?_) (fun c71 => ?_)
        · refine lv_iconst (v := (nI 0)) hx hb dX6_isResult_78 (by decide) ?_
          refine zt_i (v := (zq (resB σ t9 m9 = true))) (by first | exact zq_nt (res_t kj n12 ht (by omega)) | exact zq_nf (res_f kj n12 ht (by omega))) ?_
          exact J79
        · refine lv_iconst (v := (nI 1)) hx hb dX6_isResult_74 (by decide) ?_
          refine lv_goto (tgt := 79) hx hb dX6_isResult_75 (by decide) ?_
          refine zt_i (v := (zq (resB σ t9 m9 = true))) (by first | exact zq_nt (res_t kj n12 ht (by omega)) | exact zq_nf (res_f kj n12 ht (by omega))) ?_
          exact J79
      · have hx9 := (kj (t9 + t) (by omega)).2.2.2.1
        refine lv_iload_n hx hb dX6_isResult_16 rfl (lv_at hl 1 rfl) ?_
        refine lv_aload_n hx hb dX6_isResult_17 rfl (lv_at hl 2 rfl) ?_
        refine va_get (D := D) (ci := 6) (v := .ref (A 9)) (C := RX6) (T := TX6) (N := 17) hx hb hts qX6_isResult_inX6 hown hK hP 0 rfl rfl 11 (by decide) (hts _ qX6_isResult_Cond_fieldLink_RX6_36_NestedCodesModel_its_I_) (fun _ h9 => h9) rfl dX6_isResult_18 ?_
        refine lv_aload_n hx hb dX6_isResult_21 rfl (lv_at hl 2 rfl) ?_
        refine va_get (D := D) (ci := 6) (v := .ref (A 12)) (C := RX6) (T := TX6) (N := 17) hx hb hts qX6_isResult_inX6 hown hK hP 0 rfl rfl 14 (by decide) (hts _ qX6_isResult_Cond_fieldLink_RX6_45_NestedCodesModel_order_I_) (fun _ h9 => h9) rfl dX6_isResult_22 ?_
        refine lv_iload hx hb dX6_isResult_25 (lv_at hl 0 rfl) ?_
        refine za_i hx hb hK hP 12 (f := fun k9 => nI (i3 k9)) (v := (nI (i3 (t9 + t)))) rfl (by omega) (by decide) dX6_isResult_27 (rfl) ?_
        refine za_i hx hb hK hP 9 (f := fun k9 => nI (i0 k9)) (v := (nI (itS σ (i3 (t9 + t))))) rfl (by omega) (by decide) dX6_isResult_28 (congrArg nI (kj _ hx9).1) ?_
        refine lv_aload_n hx hb dX6_isResult_29 rfl (lv_at hl 2 rfl) ?_
        refine va_get (D := D) (ci := 6) (v := .ref (A 5)) (C := RX6) (T := TX6) (N := 17) hx hb hts qX6_isResult_inX6 hown hK hP 0 rfl rfl 6 (by decide) (hts _ qX6_isResult_Cond_fieldLink_RX6_23_NestedCodesModel_code_B_) (fun _ h9 => h9) rfl dX6_isResult_30 ?_
        refine lv_bipush (v := (nI 12)) hx hb dX6_isResult_33 (by decide) ?_
        refine lv_iload_n hx hb dX6_isResult_35 rfl (lv_at hl 3 rfl) ?_
        refine zv_imul hx hb (v := (nI (12 * m9))) dX6_isResult_36 (pk_mul _ _) ?_
        refine lv_aload_n hx hb dX6_isResult_37 rfl (lv_at hl 2 rfl) ?_
        refine va_get (D := D) (ci := 6) (v := .ref (A 12)) (C := RX6) (T := TX6) (N := 17) hx hb hts qX6_isResult_inX6 hown hK hP 0 rfl rfl 14 (by decide) (hts _ qX6_isResult_Cond_fieldLink_RX6_45_NestedCodesModel_order_I_) (fun _ h9 => h9) rfl dX6_isResult_38 ?_
        refine lv_iload hx hb dX6_isResult_41 (lv_at hl 0 rfl) ?_
        refine za_i hx hb hK hP 12 (f := fun k9 => nI (i3 k9)) (v := (nI (i3 (t9 + t)))) rfl (by omega) (by decide) dX6_isResult_43 (rfl) ?_
        refine zv_iadd hx hb (v := (nI ((12 * m9) + (i3 (t9 + t))))) dX6_isResult_44 (nI_add _ _) ?_
        refine za_b hx hb hK hP 5 (f := fun k9 => nI (cdS k9)) (v := (nI (zcw m9 (i3 (t9 + t))))) rfl (by omega) (by decide) dX6_isResult_45 (congrArg nI (cdS_at m9 (by omega))) ?_
        have hz9 : zcw m9 (i3 (t9 + t)) < 16 := zcw_lt hm (by omega)
        have hi9 := itS_lt σ (i3 (t9 + t))
        have J54 : W p l e R s m args below meth c s.heap [] 0 0 Q (F0 m 54 ls [.int (nI (b01 (difB σ m9 (i3 (t9 + t))))), .int (nI (erI σ m9 i3 t9 t))]) := by
          refine zv_iadd hx hb (v := (nI ((erI σ m9 i3 t9 t) + (b01 (difB σ m9 (i3 (t9 + t))))))) dX6_isResult_54 (nI_add _ _) ?_
          refine lv_istore_n (lv' := [(3, .int (nI ((erI σ m9 i3 t9 t) + (b01 (difB σ m9 (i3 (t9 + t))))))), (4, .int (nI (t9 + t))), (0, .ref (A 0)), (1, .int (nI m9)), (2, .int (nI t9))]) hx hb dX6_isResult_55 rfl hl (by decide) rfl (fun ls hl => ?_)
          refine lv_iinc (v := (nI (t9 + t + 1))) (lv' := [(4, .int (nI (t9 + t + 1))), (3, .int (nI ((erI σ m9 i3 t9 t) + (b01 (difB σ m9 (i3 (t9 + t))))))), (0, .ref (A 0)), (1, .int (nI m9)), (2, .int (nI t9))]) hx hb dX6_isResult_56 hl (k := 1) rfl (zinc _) (by decide) rfl (fun ls hl => ?_)
          refine lv_goto (tgt := 5) hx hb dX6_isResult_59 (by decide) ?_
          exact ih5 (t + 1) (by omega) (by omega) ls (lv_sub hl [0, 1, 2, 3, 4] rfl)
        refine zn_icmp_ne (tgt := 53)  hx hb dX6_isResult_46 (by decide) (by omega) (by omega) (fun c46 => ?_) (fun c46 => ?_)
        · refine lv_iconst (v := (nI 1)) hx hb dX6_isResult_53 (by decide) ?_
          refine zt_i (v := (nI (b01 (difB σ m9 (i3 (t9 + t)))))) (by first | exact congrArg nI (by rw [difB_f (by omega) (by omega)]; rfl) | exact congrArg nI (by rw [difB_t (by omega) (by omega)]; rfl)) ?_
          exact J54
        · refine lv_iconst (v := (nI 0)) hx hb dX6_isResult_49 (by decide) ?_
          refine lv_goto (tgt := 54) hx hb dX6_isResult_50 (by decide) ?_
          refine zt_i (v := (nI (b01 (difB σ m9 (i3 (t9 + t)))))) (by first | exact congrArg nI (by rw [difB_f (by omega) (by omega)]; rfl) | exact congrArg nI (by rw [difB_t (by omega) (by omega)]; rfl)) ?_
          exact J54
  exact L5 (σ 0 - t9 - 0 + 1) 0 (by omega) (Nat.lt_succ_self _) ls (lv_sub hl [0, 1, 2, 3, 4] rfl)
