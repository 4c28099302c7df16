theorem qX6_placeOf_Cond_fieldLink_RX6_45_NestedCodesModel_order_I_ : Cond.fieldLink RX6 45 "NestedCodesModel" "order" "[I" ∈ wsX6_placeOf := by decide +kernel
theorem qX6_placeOf_inX6 : ∀ w ∈ wsX60, w ∈ wsX6_placeOf := by decide +kernel
set_option maxHeartbeats 4000000 in
set_option maxRecDepth 100000 in
theorem c_X6_placeOf (l : Launch) (D : va_G) (Y : Nat → ClassId) (A : Nat → Nat) (σ : Nat → Nat) (hf : Nat → Nat) (hn : Nat) (wt : Nat → Nat) (wn : Nat) (sy : Nat → Nat) (gp : Nat → Nat) (i0 : Nat → Nat) (i1 : Nat → Nat) (i2 : Nat → Nat) (i3 : Nat → Nat) (fo : Int32) (de : Int32) (j : Nat)  (kσ : zWF σ) (kj : jCon σ i0 i1 i2 i3) (hj : j < σ 0) : Met l yX6_placeOf wsX6_placeOf ({ frames := 0, cells := 0, slots := 0, locals := 0 } : Room) (va_Pc [.ref (A 0), .int (nI j)] (zB D Y (MX Y A σ hf hn wt wn tmS cdS (wdS σ) sy gp (ddS σ) i0 i1 i2 i3 fo de))) (zR (.int (nI (plS σ j)))) 0 0 (fun _ => False) := by
  refine zr_of (cc := cX6_placeOf) (maxL := 3) (ret := (some .int)) (by decide) rfl (Nat.le_of_ble_eq_true rfl) ?_
  intro p e s m below meth c R args Q hR hx hb hml hr hlk hown hts hK hN hP hQ ls hl
  have hown : s.vm.findClass RX6 = some m.cls := hown
  have hl : lv_has ls 3 [(0, .ref (A 0)), (1, .int (nI j))] := hl
  have kw := kσ
  obtain ⟨n3, n12, d1, d3, dn, b4, b10, gl, lm, sn, wl, wnz⟩ := kw
  have pb := zp_b b10
  have pk9 := zp_k d3
  have hpl := plS_lt σ hj
  refine lv_iconst (v := (nI 0)) hx hb dX6_placeOf_0 (by decide) ?_
  refine lv_istore_n (lv' := [(2, .int (nI 0)), (0, .ref (A 0)), (1, .int (nI j))]) hx hb dX6_placeOf_1 rfl hl (by decide) rfl (fun ls hl => ?_)
  have L2 : ∀ (n9 : Nat) (p9 : Nat) (hp : p9 ≤ plS σ j), plS σ j - p9 < n9 → ∀ ls : Array Slot, lv_has ls 3 [(2, .int (nI p9)), (0, .ref (A 0)), (1, .int (nI j))] → W p l e R s m args below meth c s.heap [] 0 0 Q (F0 m 2 ls []) := by
    intro n9
    induction n9 with
    | zero => intro p9 hp hn9; exact absurd hn9 (Nat.not_lt_zero _)
    | succ n9 ih9 =>
      have ih2 := ih9
      clear ih9
      intro p9 hp hn9 ls hl
      have hx9 := (kj p9 (by omega)).2.2.2.1
      refine lv_aload_n hx hb dX6_placeOf_2 rfl (lv_at hl 1 rfl) ?_
      refine va_get (D := D) (ci := 6) (v := .ref (A 12)) (C := RX6) (T := TX6) (N := 17) hx hb hts qX6_placeOf_inX6 hown hK hP 0 rfl rfl 14 (by decide) (hts _ qX6_placeOf_Cond_fieldLink_RX6_45_NestedCodesModel_order_I_) (fun _ h9 => h9) rfl dX6_placeOf_3 ?_
      refine lv_iload_n hx hb dX6_placeOf_6 rfl (lv_at hl 0 rfl) ?_
      refine za_i hx hb hK hP 12 (f := fun k9 => nI (i3 k9)) (v := (nI (i3 p9))) rfl (by omega) (by decide) dX6_placeOf_7 (rfl) ?_
      refine lv_iload_n hx hb dX6_placeOf_8 rfl (lv_at hl 2 rfl) ?_
      refine zn_icmp_eq (tgt := 18)  hx hb dX6_placeOf_9 (by decide) (by omega) (by omega) (fun c9 => ?_) (fun c9 => ?_)
      · refine lv_iload_n hx hb dX6_placeOf_18 rfl (lv_at hl 0 rfl) ?_
        exact zr_i hx hb hr hlk hQ dX6_placeOf_19 (congrArg nI (jc_eq kj (by omega) (by omega)))
      · have hn8 := jc_ne kj hj hp (by omega)
        refine lv_iinc (v := (nI (p9 + 1))) (lv' := [(2, .int (nI (p9 + 1))), (0, .ref (A 0)), (1, .int (nI j))]) hx hb dX6_placeOf_12 hl (k := 0) rfl (zinc _) (by decide) rfl (fun ls hl => ?_)
        refine lv_goto (tgt := 2) hx hb dX6_placeOf_15 (by decide) ?_
        have hn9 := jc_ne kj hj hp (by omega)
        exact ih2 (p9 + 1) (by omega) (by omega) ls (lv_sub hl [0, 1, 2] rfl)
  exact L2 (plS σ j - 0 + 1) 0 (by omega) (Nat.lt_succ_self _) ls (lv_sub hl [0, 1, 2] rfl)
set_option maxHeartbeats 4000000 in
set_option maxRecDepth 100000 in
theorem c_X6_trialOf (l : Launch) (D : va_G) (Y : Nat → ClassId) (A : Nat → Nat) (σ : Nat → Nat) (hf : Nat → Nat) (hn : Nat) (wt : Nat → Nat) (wn : Nat) (sy : Nat → Nat) (gp : Nat → Nat) (i0 : Nat → Nat) (i1 : Nat → Nat) (i2 : Nat → Nat) (i3 : Nat → Nat) (fo : Int32) (de : Int32) (m9 : Nat)  (kσ : zWF σ) (kj : jCon σ i0 i1 i2 i3) (hm : m9 < 4096) : Met l yX6_trialOf wsX6_trialOf ({ frames := 2, cells := 0, slots := 0, locals := 44 } : Room) (va_Pc [.ref (A 0), .int (nI m9)] (zB D Y (MX Y A σ hf hn wt wn tmS cdS (wdS σ) sy gp (ddS σ) i0 i1 i2 i3 fo de))) (zR (.int (orI (σ 0 - σ 1 + 1) (zfst (fun k9 => resB σ k9 m9) (σ 0 - σ 1 + 1)) (-1)))) 0 0 (fun _ => False) := by
  refine zr_of (cc := cX6_trialOf) (maxL := 3) (ret := (some .int)) (by decide) rfl (Nat.le_of_ble_eq_true rfl) ?_
  intro p e s m below meth c R args Q hR hx hb hml hr hlk hown hts hK hN hP hQ ls hl
  have hown : s.vm.findClass RX6 = some m.cls := hown
  have hl : lv_has ls 3 [(0, .ref (A 0)), (1, .int (nI m9))] := hl
  have kw := kσ
  obtain ⟨n3, n12, d1, d3, dn, b4, b10, gl, lm, sn, wl, wnz⟩ := kw
  have pb := zp_b b10
  have pk9 := zp_k d3
  refine lv_iconst (v := (nI 0)) hx hb dX6_trialOf_0 (by decide) ?_
  refine lv_istore_n (lv' := [(2, .int (nI 0)), (0, .ref (A 0)), (1, .int (nI m9))]) hx hb dX6_trialOf_1 rfl hl (by decide) rfl (fun ls hl => ?_)
  have L2 : ∀ (n9 : Nat) (t : Nat) (ht2 : t ≤ σ 0 - σ 1 + 1) (hz : ∀ x, x < t → (fun k9 => resB σ k9 m9) x = false), σ 0 - σ 1 + 1 - t < n9 → ∀ ls : Array Slot, lv_has ls 3 [(2, .int (nI t)), (0, .ref (A 0)), (1, .int (nI m9))] → W p l e R s m args below meth c s.heap [] 0 0 Q (F0 m 2 ls []) := by
    intro n9
    induction n9 with
    | zero => intro t ht2 hz hn9; exact absurd hn9 (Nat.not_lt_zero _)
    | succ n9 ih9 =>
      have ih2 := ih9
      clear ih9
      intro t ht2 hz hn9 ls hl
      refine lv_iload_n hx hb dX6_trialOf_2 rfl (lv_at hl 0 rfl) ?_
      refine lv_aload_n hx hb dX6_trialOf_3 rfl (lv_at hl 1 rfl) ?_
      refine zc_r (va_runV (As := []) (rest := [.int (nI t)]) ⟨hx, hb, hml, hown, hts⟩ (c_X6_distance l D Y A σ hf hn wt wn tmS cdS (wdS σ) sy gp (ddS σ) i0 i1 i2 i3 fo de  kσ) (cwV 0 hts gX6_trialOf_X6_distance rfl rfl rfl (by decide +kernel) (by rw [hR]; exact ⟨Nat.le_of_ble_eq_true rfl, Nat.le_of_ble_eq_true rfl⟩)) ⟨zB_blind, va_recv hK hP (ci := 6) (q0 := 0) rfl rfl, zp_r hP hK hN⟩ rfl rfl hl.1 rfl (lv_room (Nat.le_of_ble_eq_true rfl)) dX6_trialOf_4 ⟨Nat.zero_le _, Nat.zero_le _⟩).run ?_
      refine zn_icmp_ge (tgt := 27)  hx hb dX6_trialOf_7 (by decide) (by omega) (by omega) (fun c7 => ?_) (fun c7 => ?_)
      · obtain rfl : t = σ 0 - σ 1 + 1 := by omega
        refine lv_iconst (v := (-1)) hx hb dX6_trialOf_27 (by decide) ?_
        exact zr_i hx hb hr hlk hQ dX6_trialOf_28 (orI_no hz)
      · refine lv_aload_n hx hb dX6_trialOf_10 rfl (lv_at hl 1 rfl) ?_
        refine lv_iload_n hx hb dX6_trialOf_11 rfl (lv_at hl 2 rfl) ?_
        refine lv_iload_n hx hb dX6_trialOf_12 rfl (lv_at hl 0 rfl) ?_
        refine zc_r (va_runV (As := [.int (nI m9), .int (nI t)]) (rest := []) ⟨hx, hb, hml, hown, hts⟩ (c_X6_isResult l D Y A σ hf hn wt wn sy gp i0 i1 i2 i3 fo de m9 t kσ kj (by omega) (by omega)) (cwV 2 hts gX6_trialOf_X6_isResult rfl rfl rfl (by decide +kernel) (by rw [hR]; exact ⟨Nat.le_of_ble_eq_true rfl, Nat.le_of_ble_eq_true rfl⟩)) ⟨zB_blind, va_recv hK hP (ci := 6) (q0 := 0) rfl rfl, zp_r hP hK hN⟩ rfl rfl hl.1 rfl (lv_room (Nat.le_of_ble_eq_true rfl)) dX6_trialOf_13 ⟨Nat.zero_le _, Nat.zero_le _⟩).run ?_
        refine zb_if_eq (tgt := 21)  hx hb dX6_trialOf_16 (by decide)  (fun c16 => ?_) (fun c16 => ?_)
        · refine lv_iinc (v := (nI (t + 1))) (lv' := [(2, .int (nI (t + 1))), (0, .ref (A 0)), (1, .int (nI m9))]) hx hb dX6_trialOf_21 hl (k := 0) rfl (zinc _) (by decide) rfl (fun ls hl => ?_)
          refine lv_goto (tgt := 2) hx hb dX6_trialOf_24 (by decide) ?_
          exact ih2 (t + 1) (by omega) (all_up hz c16) (by omega) ls (lv_sub hl [0, 1, 2] rfl)
        · refine lv_iload_n hx hb dX6_trialOf_19 rfl (lv_at hl 0 rfl) ?_
          exact zr_i hx hb hr hlk hQ dX6_trialOf_20 (orI_at hz c16 (by omega))
  exact L2 (σ 0 - σ 1 + 1 - 0 + 1) 0 (by omega) (fun x hx => absurd hx (Nat.not_lt_zero x)) (Nat.lt_succ_self _) ls (lv_sub hl [0, 1, 2] rfl)
theorem qX6_isGuaranteed_Cond_fieldLink_RX6_55_NestedCodesModel_least_I_ : Cond.fieldLink RX6 55 "NestedCodesModel" "least" "I" ∈ wsX6_isGuaranteed := by decide +kernel
theorem qX6_isGuaranteed_inX6 : ∀ w ∈ wsX60, w ∈ wsX6_isGuaranteed := by decide +kernel
theorem qX6_isGuaranteed_Cond_fieldLink_RX6_7_NestedCodesModel_d_I_ : Cond.fieldLink RX6 7 "NestedCodesModel" "d" "[I" ∈ wsX6_isGuaranteed := by decide +kernel
set_option maxHeartbeats 4000000 in
set_option maxRecDepth 100000 in
theorem c_X6_isGuaranteed (l : Launch) (D : va_G) (Y : Nat → ClassId) (A : Nat → Nat) (σ : Nat → Nat) (hf : Nat → Nat) (hn : Nat) (wt : Nat → Nat) (wn : Nat) (sy : Nat → Nat) (gp : Nat → Nat) (i0 : Nat → Nat) (i1 : Nat → Nat) (i2 : Nat → Nat) (i3 : Nat → Nat) (fo : Int32) (de : Int32)   (kσ : zWF σ) (ksy : ∀ w9, w9 < 2 ^ (σ 2) → sy w9 = syS σ w9) (kgp : ∀ w9, w9 < 2 ^ (σ 2) → gp w9 = gpS σ w9) (kM : σ 7 < 2 ^ σ 0) : Met l yX6_isGuaranteed wsX6_isGuaranteed ({ frames := 2, cells := 0, slots := 0, locals := 44 } : Room) (va_Pc [.ref (A 0)] (zB D Y (MX Y A σ hf hn wt wn tmS cdS (wdS σ) sy gp (ddS σ) i0 i1 i2 i3 fo de))) (zR (.int (guarV σ))) 0 0 (fun _ => False) := by
  refine zr_of (cc := cX6_isGuaranteed) (maxL := 1) (ret := (some .int)) (by decide) rfl (Nat.le_of_ble_eq_true rfl) ?_
  intro p e s m below meth c R args Q hR hx hb hml hr hlk hown hts hK hN hP hQ ls hl
  have hown : s.vm.findClass RX6 = some m.cls := hown
  have hl : lv_has ls 1 [(0, .ref (A 0))] := hl
  have kw := kσ
  obtain ⟨n3, n12, d1, d3, dn, b4, b10, gl, lm, sn, wl, wnz⟩ := kw
  have pb := zp_b b10
  have pk9 := zp_k d3
  have hdd := dd_le σ
  have hln := lostN_le σ (σ 0)
  have hpl9 := popc_lost n12 kM
  have hm1 : ddS σ * lostN σ (σ 0) ≤ 10 * 12 := Nat.mul_le_mul hdd (by omega)
  have hm2 : ddS σ * (σ 0 - σ 1 + 1) ≤ 10 * 12 := Nat.mul_le_mul hdd (by omega)
  refine lv_iconst (v := (nI 2)) hx hb dX6_isGuaranteed_0 (by decide) ?_
  refine lv_aload_n hx hb dX6_isGuaranteed_1 rfl (lv_at hl 0 rfl) ?_
  refine zc_r (va_runV (As := []) (rest := [.int (nI 2)]) ⟨hx, hb, hml, hown, hts⟩ (c_X6_wrongBits l D Y A σ hf hn wt wn sy gp i0 i1 i2 i3 fo de  kσ) (cwV 0 hts gX6_isGuaranteed_X6_wrongBits rfl rfl rfl (by decide +kernel) (by rw [hR]; exact ⟨Nat.le_of_ble_eq_true rfl, Nat.le_of_ble_eq_true rfl⟩)) ⟨zB_blind, va_recv hK hP (ci := 6) (q0 := 0) rfl rfl, zp_r hP hK hN⟩ rfl rfl hl.1 rfl (lv_room (Nat.le_of_ble_eq_true rfl)) dX6_isGuaranteed_2 ⟨Nat.zero_le _, Nat.zero_le _⟩).run ?_
  have hw2 := wrN_le (wdS σ) σ (σ 0)
  refine zv_imul hx hb (v := (nI (2 * (wrN (wdS σ) σ (σ 0))))) dX6_isGuaranteed_5 (pk_mul _ _) ?_
  refine lv_aload_n hx hb dX6_isGuaranteed_6 rfl (lv_at hl 0 rfl) ?_
  refine va_get (D := D) (ci := 6) (v := .int (nI (ddS σ))) (C := RX6) (T := TX6) (N := 17) hx hb hts qX6_isGuaranteed_inX6 hown hK hP 0 rfl rfl 10 (by decide) (hts _ qX6_isGuaranteed_Cond_fieldLink_RX6_55_NestedCodesModel_least_I_) (fun _ h9 => h9) rfl dX6_isGuaranteed_7 ?_
  refine lv_aload_n hx hb dX6_isGuaranteed_10 rfl (lv_at hl 0 rfl) ?_
  refine va_get (D := D) (ci := 6) (v := .ref (A 1)) (C := RX6) (T := TX6) (N := 17) hx hb hts qX6_isGuaranteed_inX6 hown hK hP 0 rfl rfl 0 (by decide) (hts _ qX6_isGuaranteed_Cond_fieldLink_RX6_7_NestedCodesModel_d_I_) (fun _ h9 => h9) rfl dX6_isGuaranteed_11 ?_
  refine lv_bipush (v := (nI 7)) hx hb dX6_isGuaranteed_14 (by decide) ?_
  refine za_i hx hb hK hP 1 (f := fun k9 => nI (σ k9)) (v := (nI (σ 7))) rfl (by omega) (by decide) dX6_isGuaranteed_16 (rfl) ?_
  refine zc_r (va_runS (As := [.int (nI (σ 7))]) (rest := [.int (nI (ddS σ)), .int (nI (2 * (wrN (wdS σ) σ (σ 0))))]) ⟨hx, hb, hml, hown, hts⟩ (c_X6_ones l D Y  (σ 7) (by omega)) (va_cwS 1 hts gX6_isGuaranteed_X6_ones rfl rfl rfl (by decide +kernel) (by rw [hR]; exact ⟨Nat.le_of_ble_eq_true rfl, Nat.le_of_ble_eq_true rfl⟩)) ⟨zB_blind, (zp_r (v := [.int (nI (σ 7))]) (fun k q h => absurd h (by simp)) hK hN)⟩ rfl rfl hl.1 rfl (lv_room (Nat.le_of_ble_eq_true rfl)) dX6_isGuaranteed_17 ⟨Nat.zero_le _, Nat.zero_le _⟩).run ?_
  have hp17 := popc_le (σ 7)
  refine zt_i (v := (nI (lostN σ (σ 0)))) (congrArg nI hpl9) ?_
  refine zv_imul hx hb (v := (nI ((ddS σ) * (lostN σ (σ 0))))) dX6_isGuaranteed_20 (pk_mul _ _) ?_
  refine zv_iadd hx hb (v := (nI ((2 * (wrN (wdS σ) σ (σ 0))) + ((ddS σ) * (lostN σ (σ 0)))))) dX6_isGuaranteed_21 (nI_add _ _) ?_
  refine lv_aload_n hx hb dX6_isGuaranteed_22 rfl (lv_at hl 0 rfl) ?_
  refine va_get (D := D) (ci := 6) (v := .int (nI (ddS σ))) (C := RX6) (T := TX6) (N := 17) hx hb hts qX6_isGuaranteed_inX6 hown hK hP 0 rfl rfl 10 (by decide) (hts _ qX6_isGuaranteed_Cond_fieldLink_RX6_55_NestedCodesModel_least_I_) (fun _ h9 => h9) rfl dX6_isGuaranteed_23 ?_
  refine lv_aload_n hx hb dX6_isGuaranteed_26 rfl (lv_at hl 0 rfl) ?_
  refine zc_r (va_runV (As := []) (rest := [.int (nI (ddS σ)), .int (nI ((2 * (wrN (wdS σ) σ (σ 0))) + ((ddS σ) * (lostN σ (σ 0)))))]) ⟨hx, hb, hml, hown, hts⟩ (c_X6_distance l D Y A σ hf hn wt wn tmS cdS (wdS σ) sy gp (ddS σ) i0 i1 i2 i3 fo de  kσ) (cwV 0 hts gX6_isGuaranteed_X6_distance rfl rfl rfl (by decide +kernel) (by rw [hR]; exact ⟨Nat.le_of_ble_eq_true rfl, Nat.le_of_ble_eq_true rfl⟩)) ⟨zB_blind, va_recv hK hP (ci := 6) (q0 := 0) rfl rfl, zp_r hP hK hN⟩ rfl rfl hl.1 rfl (lv_room (Nat.le_of_ble_eq_true rfl)) dX6_isGuaranteed_27 ⟨Nat.zero_le _, Nat.zero_le _⟩).run ?_
  refine zv_imul hx hb (v := (nI ((ddS σ) * (σ 0 - σ 1 + 1)))) dX6_isGuaranteed_30 (pk_mul _ _) ?_
  have J39 : W p l e R s m args below meth c s.heap [] 0 0 Q (F0 m 39 ls [.int (guarV σ)]) := by
    exact zr_i hx hb hr hlk hQ dX6_isGuaranteed_39 (rfl)
  refine zn_icmp_ge (tgt := 38)  hx hb dX6_isGuaranteed_31 (by decide) (by omega) (by omega) (fun c31 => ?_) (fun c31 => ?_)
  · refine lv_iconst (v := (nI 0)) hx hb dX6_isGuaranteed_38 (by decide) ?_
    refine zt_i (v := (guarV σ)) (by first | exact guar_t (by omega) | exact guar_f (by omega)) ?_
    exact J39
  · refine lv_iconst (v := (nI 1)) hx hb dX6_isGuaranteed_34 (by decide) ?_
    refine lv_goto (tgt := 39) hx hb dX6_isGuaranteed_35 (by decide) ?_
    refine zt_i (v := (guarV σ)) (by first | exact guar_t (by omega) | exact guar_f (by omega)) ?_
    exact J39
set_option maxHeartbeats 4000000 in
set_option maxRecDepth 100000 in
theorem c_X6_score_bad (l : Launch) (D : va_G) (Y : Nat → ClassId) (A : Nat → Nat) (σ : Nat → Nat) (hf : Nat → Nat) (hn : Nat) (wt : Nat → Nat) (wn : Nat) (sy : Nat → Nat) (gp : Nat → Nat) (i0 : Nat → Nat) (i1 : Nat → Nat) (i2 : Nat → Nat) (i3 : Nat → Nat) (fo : Int32) (de : Int32) (x : Int32)  (kσ : zWF σ) (ksy : ∀ w9, w9 < 2 ^ (σ 2) → sy w9 = syS σ w9) (kgp : ∀ w9, w9 < 2 ^ (σ 2) → gp w9 = gpS σ w9) (hbad : ¬ (0 ≤ (x).toInt ∧ (x).toInt < ((2 ^ (4 * σ 1) : Nat) : Int))) : Met l yX6_score wsX6_score ({ frames := 2, cells := 0, slots := 0, locals := 43 } : Room) (va_Pc [.ref (A 0), .int (x)] (zB D Y (MX Y A σ hf hn wt wn tmS cdS (wdS σ) sy gp (ddS σ) i0 i1 i2 i3 fo de))) (zR (.int (-1001))) 0 0 (fun _ => False) := by
  refine zr_of (cc := cX6_score) (maxL := 2) (ret := (some .int)) (by decide) rfl (Nat.le_of_ble_eq_true rfl) ?_
  intro p e s m below meth c R args Q hR hx hb hml hr hlk hown hts hK hN hP hQ ls hl
  have hown : s.vm.findClass RX6 = some m.cls := hown
  have hl : lv_has ls 2 [(0, .ref (A 0)), (1, .int (x))] := hl
  have kw := kσ
  obtain ⟨n3, n12, d1, d3, dn, b4, b10, gl, lm, sn, wl, wnz⟩ := kw
  have pb := zp_b b10
  have pk9 := zp_k d3
  refine lv_aload_n hx hb dX6_score_0 rfl (lv_at hl 0 rfl) ?_
  refine lv_iload_n hx hb dX6_score_1 rfl (lv_at hl 1 rfl) ?_
  refine zc_r (va_runV (As := [.int (x)]) (rest := []) ⟨hx, hb, hml, hown, hts⟩ (c_X6_isMessage l D Y A σ hf hn wt wn tmS cdS (wdS σ) sy gp (ddS σ) i0 i1 i2 i3 fo de x kσ) (cwV 1 hts gX6_score_X6_isMessage rfl rfl rfl (by decide +kernel) (by rw [hR]; exact ⟨Nat.le_of_ble_eq_true rfl, Nat.le_of_ble_eq_true rfl⟩)) ⟨zB_blind, va_recv hK hP (ci := 6) (q0 := 0) rfl rfl, zp_r hP hK hN⟩ rfl rfl hl.1 rfl (lv_room (Nat.le_of_ble_eq_true rfl)) dX6_score_2 ⟨Nat.zero_le _, Nat.zero_le _⟩).run ?_
  refine zb_if_ne (tgt := 12)  hx hb dX6_score_5 (by decide)  (fun c5 => ?_) (fun c5 => ?_)
  · exact absurd c5 hbad
  · refine lv_sipush (v := (-1001)) hx hb dX6_score_8 (by decide) ?_
    exact zr_i hx hb hr hlk hQ dX6_score_11 (rfl)
set_option maxHeartbeats 4000000 in
set_option maxRecDepth 100000 in
theorem c_X6_score (l : Launch) (D : va_G) (Y : Nat → ClassId) (A : Nat → Nat) (σ : Nat → Nat) (hf : Nat → Nat) (hn : Nat) (wt : Nat → Nat) (wn : Nat) (sy : Nat → Nat) (gp : Nat → Nat) (i0 : Nat → Nat) (i1 : Nat → Nat) (i2 : Nat → Nat) (i3 : Nat → Nat) (fo : Int32) (de : Int32) (m9 : Nat)  (kσ : zWF σ) (ksy : ∀ w9, w9 < 2 ^ (σ 2) → sy w9 = syS σ w9) (kgp : ∀ w9, w9 < 2 ^ (σ 2) → gp w9 = gpS σ w9) (hm : m9 < 2 ^ (4 * σ 1)) : Met l yX6_score wsX6_score ({ frames := 2, cells := 0, slots := 0, locals := 43 } : Room) (va_Pc [.ref (A 0), .int (nI m9)] (zBw D Y (MX Y A σ hf hn wt wn tmS cdS (wdS σ) sy gp (ddS σ) i0 i1 i2 i3 fo de))) (zW (some (.int (zI (scS σ m9)))) D (MX Y A σ hf hn wt wn tmS cdS (wdS σ) sy gp (ddS σ) (ag0 σ i0) (ag1 σ i1) (ag2 σ i2) (insI (trS σ) i3 (σ 0)) fo de) (zA (MX Y A σ hf hn wt wn tmS cdS (wdS σ) sy gp (ddS σ) i0 i1 i2 i3 fo de))) 0 0 (zA (MX Y A σ hf hn wt wn tmS cdS (wdS σ) sy gp (ddS σ) i0 i1 i2 i3 fo de)) := by
  refine zw_of (cc := cX6_score) (maxL := 2) (ret := (some .int)) (by decide) rfl (Nat.le_of_ble_eq_true rfl) ?_
  intro p e s m below meth c R args Q FA hR hx hb hml hr hlk hown hts hK hN hQ hP hD hS ls hl
  have hown : s.vm.findClass RX6 = some m.cls := hown
  have hl : lv_has ls 2 [(0, .ref (A 0)), (1, .int (nI m9))] := hl
  have hS := hS
  have kw := kσ
  obtain ⟨n3, n12, d1, d3, dn, b4, b10, gl, lm, sn, wl, wnz⟩ := kw
  have pb := zp_b b10
  have pk9 := zp_k d3
  suffices hgo : ∀ (H : Heap) (locs : List Loc), va_P D vwCl (MX Y A σ hf hn wt wn tmS cdS (wdS σ) sy gp (ddS σ) i0 i1 i2 i3 fo de) H → va_S FA s.heap H locs → W p l e R s m args below meth c H locs 0 0 Q (F0 m 0 ls []) from hgo _ _ hP hS
  clear hP hS
  intro H locs hP hS
  refine lv_aload_n hx hb dX6_score_0 rfl (lv_at hl 0 rfl) ?_
  refine lv_iload_n hx hb dX6_score_1 rfl (lv_at hl 1 rfl) ?_
  refine zc_r (va_runV (As := [.int (nI m9)]) (rest := []) ⟨hx, hb, hml, hown, hts⟩ (c_X6_isMessage l D Y A σ hf hn wt wn tmS cdS (wdS σ) sy gp (ddS σ) i0 i1 i2 i3 fo de ((nI m9)) kσ) (cwV 1 hts gX6_score_X6_isMessage rfl rfl rfl (by decide +kernel) (by rw [hR]; exact ⟨Nat.le_of_ble_eq_true rfl, Nat.le_of_ble_eq_true rfl⟩)) ⟨zB_blind, va_recv hK hP (ci := 6) (q0 := 0) rfl rfl, zp_r hP hK hN⟩ rfl rfl hl.1 rfl (lv_room (Nat.le_of_ble_eq_true rfl)) dX6_score_2 ⟨Nat.zero_le _, Nat.zero_le _⟩).run ?_
  refine zb_if_ne (tgt := 12)  hx hb dX6_score_5 (by decide)  (fun c5 => ?_) (fun c5 => ?_)
  · refine lv_aload_n hx hb dX6_score_12 rfl (lv_at hl 0 rfl) ?_
    refine zc_w (va_runV (As := []) (rest := []) ⟨hx, hb, hml, hown, hts⟩ (c_X6_judges l D Y A σ hf hn wt wn sy gp i0 i1 i2 i3 fo de  kσ ksy kgp) (cwV 0 hts gX6_score_X6_judges rfl rfl rfl (by decide +kernel) (by rw [hR]; exact ⟨Nat.le_of_ble_eq_true rfl, Nat.le_of_ble_eq_true rfl⟩)) ⟨zBw_blind, va_recv hK hP (ci := 6) (q0 := 0) rfl rfl, zp_w hP hD hK hN⟩ rfl rfl hl.1 rfl (lv_room (Nat.le_of_ble_eq_true rfl)) dX6_score_13 ⟨Nat.zero_le _, Nat.zero_le _⟩).run hS (zA_of hD) (fun H locs hP hz hk hS => ?_)
    have hD : va_D FA (MX Y A σ hf hn wt wn tmS cdS (wdS σ) sy gp (ddS σ) (ag0 σ i0) (ag1 σ i1) (ag2 σ i2) (insI (trS σ) i3 (σ 0)) fo de) := MX_dd hD
    have kj := jCon_ju σ i0 i1 i2 i3
    refine lv_aload_n hx hb dX6_score_16 rfl (lv_at hl 0 rfl) ?_
    refine lv_iload_n hx hb dX6_score_17 rfl (lv_at hl 1 rfl) ?_
    refine zc_r (va_runV (As := [.int (nI m9)]) (rest := []) ⟨hx, hb, hml, hown, hts⟩ (c_X6_scoreOf l D Y A σ hf hn wt wn sy gp (ag0 σ i0) (ag1 σ i1) (ag2 σ i2) (insI (trS σ) i3 (σ 0)) fo de m9 kσ kj (by omega)) (cwV 1 hts gX6_score_X6_scoreOf rfl rfl rfl (by decide +kernel) (by rw [hR]; exact ⟨Nat.le_of_ble_eq_true rfl, Nat.le_of_ble_eq_true rfl⟩)) ⟨zB_blind, va_recv hK hP (ci := 6) (q0 := 0) rfl rfl, zp_r hP hK hN⟩ rfl rfl hl.1 rfl (lv_room (Nat.le_of_ble_eq_true rfl)) dX6_score_18 ⟨Nat.zero_le _, Nat.zero_le _⟩).run ?_
    have hsc18 := scS_b n12 m9
    exact zw_i hx hb hr hlk hQ hS dX6_score_21 (rfl) (hP)
  · exact absurd ⟨by rw [zt_n (by omega)]; omega, by rw [zt_n (by omega)]; omega⟩ c5
set_option maxHeartbeats 4000000 in
set_option maxRecDepth 100000 in
theorem c_X6_blockAt_bad (l : Launch) (D : va_G) (Y : Nat → ClassId) (A : Nat → Nat) (σ : Nat → Nat) (hf : Nat → Nat) (hn : Nat) (wt : Nat → Nat) (wn : Nat) (sy : Nat → Nat) (gp : Nat → Nat) (i0 : Nat → Nat) (i1 : Nat → Nat) (i2 : Nat → Nat) (i3 : Nat → Nat) (fo : Int32) (de : Int32) (y : Int32)  (kσ : zWF σ) (ksy : ∀ w9, w9 < 2 ^ (σ 2) → sy w9 = syS σ w9) (kgp : ∀ w9, w9 < 2 ^ (σ 2) → gp w9 = gpS σ w9) (hbad : ¬ (0 ≤ (y).toInt ∧ (y).toInt < ((σ 0 : Nat) : Int))) : Met l yX6_blockAt wsX6_blockAt ({ frames := 2, cells := 0, slots := 0, locals := 43 } : Room) (va_Pc [.ref (A 0), .int (y)] (zB D Y (MX Y A σ hf hn wt wn tmS cdS (wdS σ) sy gp (ddS σ) i0 i1 i2 i3 fo de))) (zR (.int (-1001))) 0 0 (fun _ => False) := by
  refine zr_of (cc := cX6_blockAt) (maxL := 2) (ret := (some .int)) (by decide) rfl (Nat.le_of_ble_eq_true rfl) ?_
  intro p e s m below meth c R args Q hR hx hb hml hr hlk hown hts hK hN hP hQ ls hl
  have hown : s.vm.findClass RX6 = some m.cls := hown
  have hl : lv_has ls 2 [(0, .ref (A 0)), (1, .int (y))] := hl
  have kw := kσ
  obtain ⟨n3, n12, d1, d3, dn, b4, b10, gl, lm, sn, wl, wnz⟩ := kw
  have pb := zp_b b10
  have pk9 := zp_k d3
  refine lv_aload_n hx hb dX6_blockAt_0 rfl (lv_at hl 0 rfl) ?_
  refine lv_iload_n hx hb dX6_blockAt_1 rfl (lv_at hl 1 rfl) ?_
  refine zc_r (va_runV (As := [.int (y)]) (rest := []) ⟨hx, hb, hml, hown, hts⟩ (c_X6_isBlock l D Y A σ hf hn wt wn tmS cdS (wdS σ) sy gp (ddS σ) i0 i1 i2 i3 fo de y n12 (by omega)) (cwV 1 hts gX6_blockAt_X6_isBlock rfl rfl rfl (by decide +kernel) (by rw [hR]; exact ⟨Nat.le_of_ble_eq_true rfl, Nat.le_of_ble_eq_true rfl⟩)) ⟨zB_blind, va_recv hK hP (ci := 6) (q0 := 0) rfl rfl, zp_r hP hK hN⟩ rfl rfl hl.1 rfl (lv_room (Nat.le_of_ble_eq_true rfl)) dX6_blockAt_2 ⟨Nat.zero_le _, Nat.zero_le _⟩).run ?_
  refine zb_if_ne (tgt := 12)  hx hb dX6_blockAt_5 (by decide)  (fun c5 => ?_) (fun c5 => ?_)
  · exact absurd c5 hbad
  · refine lv_sipush (v := (-1001)) hx hb dX6_blockAt_8 (by decide) ?_
    exact zr_i hx hb hr hlk hQ dX6_blockAt_11 (rfl)
theorem qX6_blockAt_Cond_fieldLink_RX6_45_NestedCodesModel_order_I_ : Cond.fieldLink RX6 45 "NestedCodesModel" "order" "[I" ∈ wsX6_blockAt := by decide +kernel
theorem qX6_blockAt_inX6 : ∀ w ∈ wsX60, w ∈ wsX6_blockAt := by decide +kernel
set_option maxHeartbeats 4000000 in
set_option maxRecDepth 100000 in
theorem c_X6_blockAt (l : Launch) (D : va_G) (Y : Nat → ClassId) (A : Nat → Nat) (σ : Nat → Nat) (hf : Nat → Nat) (hn : Nat) (wt : Nat → Nat) (wn : Nat) (sy : Nat → Nat) (gp : Nat → Nat) (i0 : Nat → Nat) (i1 : Nat → Nat) (i2 : Nat → Nat) (i3 : Nat → Nat) (fo : Int32) (de : Int32) (j : Nat)  (kσ : zWF σ) (ksy : ∀ w9, w9 < 2 ^ (σ 2) → sy w9 = syS σ w9) (kgp : ∀ w9, w9 < 2 ^ (σ 2) → gp w9 = gpS σ w9) (hj : j < σ 0) : Met l yX6_blockAt wsX6_blockAt ({ frames := 2, cells := 0, slots := 0, locals := 43 } : Room) (va_Pc [.ref (A 0), .int (nI j)] (zBw D Y (MX Y A σ hf hn wt wn tmS cdS (wdS σ) sy gp (ddS σ) i0 i1 i2 i3 fo de))) (zW (some (.int (nI (ordS σ j)))) D (MX Y A σ hf hn wt wn tmS cdS (wdS σ) sy gp (ddS σ) (ag0 σ i0) (ag1 σ i1) (ag2 σ i2) (insI (trS σ) i3 (σ 0)) fo de) (zA (MX Y A σ hf hn wt wn tmS cdS (wdS σ) sy gp (ddS σ) i0 i1 i2 i3 fo de))) 0 0 (zA (MX Y A σ hf hn wt wn tmS cdS (wdS σ) sy gp (ddS σ) i0 i1 i2 i3 fo de)) := by
  refine zw_of (cc := cX6_blockAt) (maxL := 2) (ret := (some .int)) (by decide) rfl (Nat.le_of_ble_eq_true rfl) ?_
  intro p e s m below meth c R args Q FA hR hx hb hml hr hlk hown hts hK hN hQ hP hD hS ls hl
  have hown : s.vm.findClass RX6 = some m.cls := hown
  have hl : lv_has ls 2 [(0, .ref (A 0)), (1, .int (nI j))] := hl
  have hS := hS
  have kw := kσ
  obtain ⟨n3, n12, d1, d3, dn, b4, b10, gl, lm, sn, wl, wnz⟩ := kw
  have pb := zp_b b10
  have pk9 := zp_k d3
  suffices hgo : ∀ (H : Heap) (locs : List Loc), va_P D vwCl (MX Y A σ hf hn wt wn tmS cdS (wdS σ) sy gp (ddS σ) i0 i1 i2 i3 fo de) H → va_S FA s.heap H locs → W p l e R s m args below meth c H locs 0 0 Q (F0 m 0 ls []) from hgo _ _ hP hS
  clear hP hS
  intro H locs hP hS
  refine lv_aload_n hx hb dX6_blockAt_0 rfl (lv_at hl 0 rfl) ?_
  refine lv_iload_n hx hb dX6_blockAt_1 rfl (lv_at hl 1 rfl) ?_
  refine zc_r (va_runV (As := [.int (nI j)]) (rest := []) ⟨hx, hb, hml, hown, hts⟩ (c_X6_isBlock l D Y A σ hf hn wt wn tmS cdS (wdS σ) sy gp (ddS σ) i0 i1 i2 i3 fo de ((nI j)) n12 (by omega)) (cwV 1 hts gX6_blockAt_X6_isBlock rfl rfl rfl (by decide +kernel) (by rw [hR]; exact ⟨Nat.le_of_ble_eq_true rfl, Nat.le_of_ble_eq_true rfl⟩)) ⟨zB_blind, va_recv hK hP (ci := 6) (q0 := 0) rfl rfl, zp_r hP hK hN⟩ rfl rfl hl.1 rfl (lv_room (Nat.le_of_ble_eq_true rfl)) dX6_blockAt_2 ⟨Nat.zero_le _, Nat.zero_le _⟩).run ?_
  refine zb_if_ne (tgt := 12)  hx hb dX6_blockAt_5 (by decide)  (fun c5 => ?_) (fun c5 => ?_)
  · refine lv_aload_n hx hb dX6_blockAt_12 rfl (lv_at hl 0 rfl) ?_
    refine zc_w (va_runV (As := []) (rest := []) ⟨hx, hb, hml, hown, hts⟩ (c_X6_judges l D Y A σ hf hn wt wn sy gp i0 i1 i2 i3 fo de  kσ ksy kgp) (cwV 0 hts gX6_blockAt_X6_judges rfl rfl rfl (by decide +kernel) (by rw [hR]; exact ⟨Nat.le_of_ble_eq_true rfl, Nat.le_of_ble_eq_true rfl⟩)) ⟨zBw_blind, va_recv hK hP (ci := 6) (q0 := 0) rfl rfl, zp_w hP hD hK hN⟩ rfl rfl hl.1 rfl (lv_room (Nat.le_of_ble_eq_true rfl)) dX6_blockAt_13 ⟨Nat.zero_le _, Nat.zero_le _⟩).run hS (zA_of hD) (fun H locs hP hz hk hS => ?_)
    have hD : va_D FA (MX Y A σ hf hn wt wn tmS cdS (wdS σ) sy gp (ddS σ) (ag0 σ i0) (ag1 σ i1) (ag2 σ i2) (insI (trS σ) i3 (σ 0)) fo de) := MX_dd hD
    have kj := jCon_ju σ i0 i1 i2 i3
    refine lv_aload_n hx hb dX6_blockAt_16 rfl (lv_at hl 0 rfl) ?_
    refine va_get (D := D) (ci := 6) (v := .ref (A 12)) (C := RX6) (T := TX6) (N := 17) hx hb hts qX6_blockAt_inX6 hown hK hP 0 rfl rfl 14 (by decide) (hts _ qX6_blockAt_Cond_fieldLink_RX6_45_NestedCodesModel_order_I_) (fun _ h9 => h9) rfl dX6_blockAt_17 ?_
    refine lv_iload_n hx hb dX6_blockAt_20 rfl (lv_at hl 1 rfl) ?_
    refine za_i hx hb hK hP 12 (f := fun k9 => nI ((insI (trS σ) i3 (σ 0)) k9)) (v := (nI ((insI (trS σ) i3 (σ 0)) j))) rfl (by omega) (by decide) dX6_blockAt_21 (rfl) ?_
    exact zw_i hx hb hr hlk hQ hS dX6_blockAt_22 (congrArg nI (jc_ord kj hj).symm) (hP)
  · exact absurd ⟨by rw [zt_n (by omega)]; omega, by rw [zt_n (by omega)]; omega⟩ c5
set_option maxHeartbeats 4000000 in
set_option maxRecDepth 100000 in
theorem c_X6_lawful (l : Launch) (D : va_G) (Y : Nat → ClassId) (A : Nat → Nat) (σ : Nat → Nat) (hf : Nat → Nat) (hn : Nat) (wt : Nat → Nat) (wn : Nat) (sy : Nat → Nat) (gp : Nat → Nat) (i0 : Nat → Nat) (i1 : Nat → Nat) (i2 : Nat → Nat) (i3 : Nat → Nat) (fo : Int32) (de : Int32)   (kσ : zWF σ) (ksy : ∀ w9, w9 < 2 ^ (σ 2) → sy w9 = syS σ w9) (kgp : ∀ w9, w9 < 2 ^ (σ 2) → gp w9 = gpS σ w9) : Met l yX6_lawful wsX6_lawful ({ frames := 2, cells := 0, slots := 0, locals := 43 } : Room) (va_Pc [.ref (A 0)] (zBw D Y (MX Y A σ hf hn wt wn tmS cdS (wdS σ) sy gp (ddS σ) i0 i1 i2 i3 fo de))) (zW (some (.int (lawfulV σ))) D (MX Y A σ hf hn wt wn tmS cdS (wdS σ) sy gp (ddS σ) (ag0 σ i0) (ag1 σ i1) (ag2 σ i2) (insI (trS σ) i3 (σ 0)) fo de) (zA (MX Y A σ hf hn wt wn tmS cdS (wdS σ) sy gp (ddS σ) i0 i1 i2 i3 fo de))) 0 0 (zA (MX Y A σ hf hn wt wn tmS cdS (wdS σ) sy gp (ddS σ) i0 i1 i2 i3 fo de)) := by
  refine zw_of (cc := cX6_lawful) (maxL := 3) (ret := (some .int)) (by decide) rfl (Nat.le_of_ble_eq_true rfl) ?_
  intro p e s m below meth c R args Q FA hR hx hb hml hr hlk hown hts hK hN hQ hP hD hS ls hl
  have hown : s.vm.findClass RX6 = some m.cls := hown
  have hl : lv_has ls 3 [(0, .ref (A 0))] := hl
  have hS := hS
  have kw := kσ
  obtain ⟨n3, n12, d1, d3, dn, b4, b10, gl, lm, sn, wl, wnz⟩ := kw
  have pb := zp_b b10
  have pk9 := zp_k d3
  suffices hgo : ∀ (H : Heap) (locs : List Loc), va_P D vwCl (MX Y A σ hf hn wt wn tmS cdS (wdS σ) sy gp (ddS σ) i0 i1 i2 i3 fo de) H → va_S FA s.heap H locs → W p l e R s m args below meth c H locs 0 0 Q (F0 m 0 ls []) from hgo _ _ hP hS
  clear hP hS
  intro H locs hP hS
  refine lv_aload_n hx hb dX6_lawful_0 rfl (lv_at hl 0 rfl) ?_
  refine zc_w (va_runV (As := []) (rest := []) ⟨hx, hb, hml, hown, hts⟩ (c_X6_judges l D Y A σ hf hn wt wn sy gp i0 i1 i2 i3 fo de  kσ ksy kgp) (cwV 0 hts gX6_lawful_X6_judges rfl rfl rfl (by decide +kernel) (by rw [hR]; exact ⟨Nat.le_of_ble_eq_true rfl, Nat.le_of_ble_eq_true rfl⟩)) ⟨zBw_blind, va_recv hK hP (ci := 6) (q0 := 0) rfl rfl, zp_w hP hD hK hN⟩ rfl rfl hl.1 rfl (lv_room (Nat.le_of_ble_eq_true rfl)) dX6_lawful_1 ⟨Nat.zero_le _, Nat.zero_le _⟩).run hS (zA_of hD) (fun H locs hP hz hk hS => ?_)
  have hD : va_D FA (MX Y A σ hf hn wt wn tmS cdS (wdS σ) sy gp (ddS σ) (ag0 σ i0) (ag1 σ i1) (ag2 σ i2) (insI (trS σ) i3 (σ 0)) fo de) := MX_dd hD
  have kj := jCon_ju σ i0 i1 i2 i3
  refine lv_iconst (v := (nI 0)) hx hb dX6_lawful_4 (by decide) ?_
  refine lv_istore_n (lv' := [(1, .int (nI 0)), (0, .ref (A 0))]) hx hb dX6_lawful_5 rfl hl (by decide) rfl (fun ls hl => ?_)
  refine lv_iconst (v := (nI 0)) hx hb dX6_lawful_6 (by decide) ?_
  refine lv_istore_n (lv' := [(2, .int (nI 0)), (1, .int (nI 0)), (0, .ref (A 0))]) hx hb dX6_lawful_7 rfl hl (by decide) rfl (fun ls hl => ?_)
  have L8 : ∀ (n9 : Nat) (i : Nat) (hi : i ≤ nMs σ), nMs σ - i < n9 → ∀ (H : Heap) (locs : List Loc), va_P D vwCl (MX Y A σ hf hn wt wn tmS cdS (wdS σ) sy gp (ddS σ) (ag0 σ i0) (ag1 σ i1) (ag2 σ i2) (insI (trS σ) i3 (σ 0)) fo de) H → va_D FA (MX Y A σ hf hn wt wn tmS cdS (wdS σ) sy gp (ddS σ) (ag0 σ i0) (ag1 σ i1) (ag2 σ i2) (insI (trS σ) i3 (σ 0)) fo de) → va_S FA s.heap H locs → ∀ ls : Array Slot, lv_has ls 3 [(2, .int (nI i)), (1, .int (nI (cnt (lawB σ) i))), (0, .ref (A 0))] → W p l e R s m args below meth c H locs 0 0 Q (F0 m 8 ls []) := by
    intro n9
    induction n9 with
    | zero => intro i hi hn9; exact absurd hn9 (Nat.not_lt_zero _)
    | succ n9 ih9 =>
      have ih8 := ih9
      clear ih9
      intro i hi hn9 H locs hP hD hS ls hl
      have hcl := cnt_le (lawB σ) i
      have hnm : nMs σ = 2 ^ (4 * σ 1) := rfl
      refine lv_iload_n hx hb dX6_lawful_8 rfl (lv_at hl 0 rfl) ?_
      refine lv_aload_n hx hb dX6_lawful_9 rfl (lv_at hl 2 rfl) ?_
      refine zc_r (va_runV (As := []) (rest := [.int (nI i)]) ⟨hx, hb, hml, hown, hts⟩ (c_X6_messages l D Y A σ hf hn wt wn tmS cdS (wdS σ) sy gp (ddS σ) (ag0 σ i0) (ag1 σ i1) (ag2 σ i2) (insI (trS σ) i3 (σ 0)) fo de  kσ) (cwV 0 hts gX6_lawful_X6_messages rfl rfl rfl (by decide +kernel) (by rw [hR]; exact ⟨Nat.le_of_ble_eq_true rfl, Nat.le_of_ble_eq_true rfl⟩)) ⟨zB_blind, va_recv hK hP (ci := 6) (q0 := 0) rfl rfl, zp_r hP hK hN⟩ rfl rfl hl.1 rfl (lv_room (Nat.le_of_ble_eq_true rfl)) dX6_lawful_10 ⟨Nat.zero_le _, Nat.zero_le _⟩).run ?_
      refine zn_icmp_ge (tgt := 42)  hx hb dX6_lawful_13 (by decide) (by omega) (by omega) (fun c13 => ?_) (fun c13 => ?_)
      · obtain rfl : i = nMs σ := by omega
        refine lv_iload_n hx hb dX6_lawful_42 rfl (lv_at hl 1 rfl) ?_
        exact zw_i hx hb hr hlk hQ hS dX6_lawful_43 ((congrArg nI (law_cnt kσ (nMs σ) (Nat.le_refl _))).trans (by unfold lawfulV; show nI (if lawM σ < nMs σ then 1 else 0) = _; split <;> rfl)) (hP)
      · refine lv_iload_n hx hb dX6_lawful_16 rfl (lv_at hl 1 rfl) ?_
        refine lv_aload_n hx hb dX6_lawful_17 rfl (lv_at hl 2 rfl) ?_
        refine lv_iload_n hx hb dX6_lawful_18 rfl (lv_at hl 0 rfl) ?_
        refine zc_r (va_runV (As := [.int (nI i)]) (rest := [.int (nI (cnt (lawB σ) i))]) ⟨hx, hb, hml, hown, hts⟩ (c_X6_scoreOf l D Y A σ hf hn wt wn sy gp (ag0 σ i0) (ag1 σ i1) (ag2 σ i2) (insI (trS σ) i3 (σ 0)) fo de i kσ kj (by omega)) (cwV 1 hts gX6_lawful_X6_scoreOf rfl rfl rfl (by decide +kernel) (by rw [hR]; exact ⟨Nat.le_of_ble_eq_true rfl, Nat.le_of_ble_eq_true rfl⟩)) ⟨zB_blind, va_recv hK hP (ci := 6) (q0 := 0) rfl rfl, zp_r hP hK hN⟩ rfl rfl hl.1 rfl (lv_room (Nat.le_of_ble_eq_true rfl)) dX6_lawful_19 ⟨Nat.zero_le _, Nat.zero_le _⟩).run ?_
        have hsc19 := scS_b n12 i
        refine lv_aload_n hx hb dX6_lawful_22 rfl (lv_at hl 2 rfl) ?_
        refine zc_r (va_runV (As := []) (rest := [.int (zI (scS σ i)), .int (nI (cnt (lawB σ) i))]) ⟨hx, hb, hml, hown, hts⟩ (c_X6_bar l D Y A σ hf hn wt wn sy gp (ag0 σ i0) (ag1 σ i1) (ag2 σ i2) (insI (trS σ) i3 (σ 0)) fo de  kσ) (cwV 0 hts gX6_lawful_X6_bar rfl rfl rfl (by decide +kernel) (by rw [hR]; exact ⟨Nat.le_of_ble_eq_true rfl, Nat.le_of_ble_eq_true rfl⟩)) ⟨zB_blind, va_recv hK hP (ci := 6) (q0 := 0) rfl rfl, zp_r hP hK hN⟩ rfl rfl hl.1 rfl (lv_room (Nat.le_of_ble_eq_true rfl)) dX6_lawful_23 ⟨Nat.zero_le _, Nat.zero_le _⟩).run ?_
        have hbar23 := barS_le kσ
        have J34 : W p l e R s m args below meth c H locs 0 0 Q (F0 m 34 ls [.int (nI (b01 (lawB σ i))), .int (nI (cnt (lawB σ) i))]) := by
          refine zv_iadd hx hb (v := (nI ((cnt (lawB σ) i) + (b01 (lawB σ i))))) dX6_lawful_34 (nI_add _ _) ?_
          refine lv_istore_n (lv' := [(1, .int (nI ((cnt (lawB σ) i) + (b01 (lawB σ i))))), (2, .int (nI i)), (0, .ref (A 0))]) hx hb dX6_lawful_35 rfl hl (by decide) rfl (fun ls hl => ?_)
          refine lv_iinc (v := (nI (i + 1))) (lv' := [(2, .int (nI (i + 1))), (1, .int (nI ((cnt (lawB σ) i) + (b01 (lawB σ i))))), (0, .ref (A 0))]) hx hb dX6_lawful_36 hl (k := 1) rfl (zinc _) (by decide) rfl (fun ls hl => ?_)
          refine lv_goto (tgt := 8) hx hb dX6_lawful_39 (by decide) ?_
          have hP : va_P D vwCl (MX Y A σ hf hn wt wn tmS cdS (wdS σ) sy gp (ddS σ) (ag0 σ i0) (ag1 σ i1) (ag2 σ i2) (insI (trS σ) i3 (σ 0)) fo de) H := hP
          have hD : va_D FA (MX Y A σ hf hn wt wn tmS cdS (wdS σ) sy gp (ddS σ) (ag0 σ i0) (ag1 σ i1) (ag2 σ i2) (insI (trS σ) i3 (σ 0)) fo de) := MX_dd hD
          exact ih8 (i + 1) (by omega) (by omega) H locs hP hD hS ls (lv_sub hl [0, 1, 2] rfl)
        refine zz_icmp_le (tgt := 33) (a := scS σ i) (b := (((barS σ : Nat)) : Int)) hx hb dX6_lawful_26 (by decide) (zI_toInt (by omega) (by omega)) (zt_n (by omega)) (fun c26 => ?_) (fun c26 => ?_)
        · refine lv_iconst (v := (nI 0)) hx hb dX6_lawful_33 (by decide) ?_
          refine zt_i (v := (nI (b01 (lawB σ i)))) (by first | exact congrArg nI (by rw [law_t kσ (by omega)]; rfl) | exact congrArg nI (by rw [law_f (by omega)]; rfl)) ?_
          exact J34
        · refine lv_iconst (v := (nI 1)) hx hb dX6_lawful_29 (by decide) ?_
          refine lv_goto (tgt := 34) hx hb dX6_lawful_30 (by decide) ?_
          refine zt_i (v := (nI (b01 (lawB σ i)))) (by first | exact congrArg nI (by rw [law_t kσ (by omega)]; rfl) | exact congrArg nI (by rw [law_f (by omega)]; rfl)) ?_
          exact J34
  have hP : va_P D vwCl (MX Y A σ hf hn wt wn tmS cdS (wdS σ) sy gp (ddS σ) (ag0 σ i0) (ag1 σ i1) (ag2 σ i2) (insI (trS σ) i3 (σ 0)) fo de) H := hP
  have hD : va_D FA (MX Y A σ hf hn wt wn tmS cdS (wdS σ) sy gp (ddS σ) (ag0 σ i0) (ag1 σ i1) (ag2 σ i2) (insI (trS σ) i3 (σ 0)) fo de) := MX_dd hD
  exact L8 (nMs σ - 0 + 1) 0 (by omega) (Nat.lt_succ_self _) _ _ hP hD hS ls (lv_sub hl [0, 1, 2] rfl)
set_option maxHeartbeats 4000000 in
set_option maxRecDepth 100000 in
theorem c_X6_trial_bad (l : Launch) (D : va_G) (Y : Nat → ClassId) (A : Nat → Nat) (σ : Nat → Nat) (hf : Nat → Nat) (hn : Nat) (wt : Nat → Nat) (wn : Nat) (sy : Nat → Nat) (gp : Nat → Nat) (i0 : Nat → Nat) (i1 : Nat → Nat) (i2 : Nat → Nat) (i3 : Nat → Nat) (fo : Int32) (de : Int32) (x : Int32)  (kσ : zWF σ) (ksy : ∀ w9, w9 < 2 ^ (σ 2) → sy w9 = syS σ w9) (kgp : ∀ w9, w9 < 2 ^ (σ 2) → gp w9 = gpS σ w9) (hbad : ¬ (0 ≤ (x).toInt ∧ (x).toInt < ((σ 0 - σ 1 + 1 : Nat) : Int))) : Met l yX6_trial wsX6_trial ({ frames := 2, cells := 0, slots := 0, locals := 44 } : Room) (va_Pc [.ref (A 0), .int (x)] (zB D Y (MX Y A σ hf hn wt wn tmS cdS (wdS σ) sy gp (ddS σ) i0 i1 i2 i3 fo de))) (zR (.int (-1001))) 0 0 (fun _ => False) := by
  refine zr_of (cc := cX6_trial) (maxL := 3) (ret := (some .int)) (by decide) rfl (Nat.le_of_ble_eq_true rfl) ?_
  intro p e s m below meth c R args Q hR hx hb hml hr hlk hown hts hK hN hP hQ ls hl
  have hown : s.vm.findClass RX6 = some m.cls := hown
  have hl : lv_has ls 3 [(0, .ref (A 0)), (1, .int (x))] := hl
  have kw := kσ
  obtain ⟨n3, n12, d1, d3, dn, b4, b10, gl, lm, sn, wl, wnz⟩ := kw
  have pb := zp_b b10
  have pk9 := zp_k d3
  refine lv_iload_n hx hb dX6_trial_0 rfl (lv_at hl 1 rfl) ?_
  refine lv_iconst (v := (nI 0)) hx hb dX6_trial_1 (by decide) ?_
  refine lv_aload_n hx hb dX6_trial_2 rfl (lv_at hl 0 rfl) ?_
  refine zc_r (va_runV (As := []) (rest := [.int (nI 0), .int (x)]) ⟨hx, hb, hml, hown, hts⟩ (c_X6_distance l D Y A σ hf hn wt wn tmS cdS (wdS σ) sy gp (ddS σ) i0 i1 i2 i3 fo de  kσ) (cwV 0 hts gX6_trial_X6_distance rfl rfl rfl (by decide +kernel) (by rw [hR]; exact ⟨Nat.le_of_ble_eq_true rfl, Nat.le_of_ble_eq_true rfl⟩)) ⟨zB_blind, va_recv hK hP (ci := 6) (q0 := 0) rfl rfl, zp_r hP hK hN⟩ rfl rfl hl.1 rfl (lv_room (Nat.le_of_ble_eq_true rfl)) dX6_trial_3 ⟨Nat.zero_le _, Nat.zero_le _⟩).run ?_
  refine lv_iconst (v := (nI 1)) hx hb dX6_trial_6 (by decide) ?_
  refine zv_isub hx hb (v := (nI ((σ 0 - σ 1 + 1) - 1))) dX6_trial_7 (pk_sub (by omega)) ?_
  refine zc_r (va_runS (As := [.int (x), .int (nI 0), .int (nI ((σ 0 - σ 1 + 1) - 1))]) (rest := []) ⟨hx, hb, hml, hown, hts⟩ (c_X6_in l D Y  x ((nI 0)) ((nI ((σ 0 - σ 1 + 1) - 1))) ) (va_cwS 3 hts gX6_trial_X6_in rfl rfl rfl (by decide +kernel) (by rw [hR]; exact ⟨Nat.le_of_ble_eq_true rfl, Nat.le_of_ble_eq_true rfl⟩)) ⟨zB_blind, (zp_r (v := [.int (x), .int (nI 0), .int (nI ((σ 0 - σ 1 + 1) - 1))]) (fun k q h => absurd h (by simp)) hK hN)⟩ rfl rfl hl.1 rfl (lv_room (Nat.le_of_ble_eq_true rfl)) dX6_trial_8 ⟨Nat.zero_le _, Nat.zero_le _⟩).run ?_
  have h8a : ((nI 0)).toInt = _ := zt_n (by omega)
  have h8b : ((nI ((σ 0 - σ 1 + 1) - 1))).toInt = _ := zt_n (by omega)
  refine zb_if_ne (tgt := 18)  hx hb dX6_trial_11 (by decide)  (fun c11 => ?_) (fun c11 => ?_)
  · exact absurd c11 (by omega)
  · refine lv_sipush (v := (-1001)) hx hb dX6_trial_14 (by decide) ?_
    exact zr_i hx hb hr hlk hQ dX6_trial_17 (rfl)
set_option maxHeartbeats 4000000 in
set_option maxRecDepth 100000 in
theorem c_X6_trial (l : Launch) (D : va_G) (Y : Nat → ClassId) (A : Nat → Nat) (σ : Nat → Nat) (hf : Nat → Nat) (hn : Nat) (wt : Nat → Nat) (wn : Nat) (sy : Nat → Nat) (gp : Nat → Nat) (i0 : Nat → Nat) (i1 : Nat → Nat) (i2 : Nat → Nat) (i3 : Nat → Nat) (fo : Int32) (de : Int32) (t9 : Nat)  (kσ : zWF σ) (ksy : ∀ w9, w9 < 2 ^ (σ 2) → sy w9 = syS σ w9) (kgp : ∀ w9, w9 < 2 ^ (σ 2) → gp w9 = gpS σ w9) (ht9 : t9 < σ 0 - σ 1 + 1) : Met l yX6_trial wsX6_trial ({ frames := 2, cells := 0, slots := 0, locals := 44 } : Room) (va_Pc [.ref (A 0), .int (nI t9)] (zBw D Y (MX Y A σ hf hn wt wn tmS cdS (wdS σ) sy gp (ddS σ) i0 i1 i2 i3 fo de))) (zW (some (.int (orI (nMs σ) (zfst (resB σ t9) (nMs σ)) (-1004)))) D (MX Y A σ hf hn wt wn tmS cdS (wdS σ) sy gp (ddS σ) (ag0 σ i0) (ag1 σ i1) (ag2 σ i2) (insI (trS σ) i3 (σ 0)) fo de) (zA (MX Y A σ hf hn wt wn tmS cdS (wdS σ) sy gp (ddS σ) i0 i1 i2 i3 fo de))) 0 0 (zA (MX Y A σ hf hn wt wn tmS cdS (wdS σ) sy gp (ddS σ) i0 i1 i2 i3 fo de)) := by
  refine zw_of (cc := cX6_trial) (maxL := 3) (ret := (some .int)) (by decide) rfl (Nat.le_of_ble_eq_true rfl) ?_
  intro p e s m below meth c R args Q FA hR hx hb hml hr hlk hown hts hK hN hQ hP hD hS ls hl
  have hown : s.vm.findClass RX6 = some m.cls := hown
  have hl : lv_has ls 3 [(0, .ref (A 0)), (1, .int (nI t9))] := hl
  have hS := hS
  have kw := kσ
  obtain ⟨n3, n12, d1, d3, dn, b4, b10, gl, lm, sn, wl, wnz⟩ := kw
  have pb := zp_b b10
  have pk9 := zp_k d3
  suffices hgo : ∀ (H : Heap) (locs : List Loc), va_P D vwCl (MX Y A σ hf hn wt wn tmS cdS (wdS σ) sy gp (ddS σ) i0 i1 i2 i3 fo de) H → va_S FA s.heap H locs → W p l e R s m args below meth c H locs 0 0 Q (F0 m 0 ls []) from hgo _ _ hP hS
  clear hP hS
  intro H locs hP hS
  refine lv_iload_n hx hb dX6_trial_0 rfl (lv_at hl 1 rfl) ?_
  refine lv_iconst (v := (nI 0)) hx hb dX6_trial_1 (by decide) ?_
  refine lv_aload_n hx hb dX6_trial_2 rfl (lv_at hl 0 rfl) ?_
  refine zc_r (va_runV (As := []) (rest := [.int (nI 0), .int (nI t9)]) ⟨hx, hb, hml, hown, hts⟩ (c_X6_distance l D Y A σ hf hn wt wn tmS cdS (wdS σ) sy gp (ddS σ) i0 i1 i2 i3 fo de  kσ) (cwV 0 hts gX6_trial_X6_distance rfl rfl rfl (by decide +kernel) (by rw [hR]; exact ⟨Nat.le_of_ble_eq_true rfl, Nat.le_of_ble_eq_true rfl⟩)) ⟨zB_blind, va_recv hK hP (ci := 6) (q0 := 0) rfl rfl, zp_r hP hK hN⟩ rfl rfl hl.1 rfl (lv_room (Nat.le_of_ble_eq_true rfl)) dX6_trial_3 ⟨Nat.zero_le _, Nat.zero_le _⟩).run ?_
  refine lv_iconst (v := (nI 1)) hx hb dX6_trial_6 (by decide) ?_
  refine zv_isub hx hb (v := (nI ((σ 0 - σ 1 + 1) - 1))) dX6_trial_7 (pk_sub (by omega)) ?_
  refine zc_r (va_runS (As := [.int (nI t9), .int (nI 0), .int (nI ((σ 0 - σ 1 + 1) - 1))]) (rest := []) ⟨hx, hb, hml, hown, hts⟩ (c_X6_in l D Y  ((nI t9)) ((nI 0)) ((nI ((σ 0 - σ 1 + 1) - 1))) ) (va_cwS 3 hts gX6_trial_X6_in rfl rfl rfl (by decide +kernel) (by rw [hR]; exact ⟨Nat.le_of_ble_eq_true rfl, Nat.le_of_ble_eq_true rfl⟩)) ⟨zB_blind, (zp_r (v := [.int (nI t9), .int (nI 0), .int (nI ((σ 0 - σ 1 + 1) - 1))]) (fun k q h => absurd h (by simp)) hK hN)⟩ rfl rfl hl.1 rfl (lv_room (Nat.le_of_ble_eq_true rfl)) dX6_trial_8 ⟨Nat.zero_le _, Nat.zero_le _⟩).run ?_
  have h8v : ((nI t9)).toInt = _ := zt_n (by omega)
  have h8a : ((nI 0)).toInt = _ := zt_n (by omega)
  have h8b : ((nI ((σ 0 - σ 1 + 1) - 1))).toInt = _ := zt_n (by omega)
  refine zb_if_ne (tgt := 18)  hx hb dX6_trial_11 (by decide)  (fun c11 => ?_) (fun c11 => ?_)
  · refine lv_aload_n hx hb dX6_trial_18 rfl (lv_at hl 0 rfl) ?_
    refine zc_w (va_runV (As := []) (rest := []) ⟨hx, hb, hml, hown, hts⟩ (c_X6_judges l D Y A σ hf hn wt wn sy gp i0 i1 i2 i3 fo de  kσ ksy kgp) (cwV 0 hts gX6_trial_X6_judges rfl rfl rfl (by decide +kernel) (by rw [hR]; exact ⟨Nat.le_of_ble_eq_true rfl, Nat.le_of_ble_eq_true rfl⟩)) ⟨zBw_blind, va_recv hK hP (ci := 6) (q0 := 0) rfl rfl, zp_w hP hD hK hN⟩ rfl rfl hl.1 rfl (lv_room (Nat.le_of_ble_eq_true rfl)) dX6_trial_19 ⟨Nat.zero_le _, Nat.zero_le _⟩).run hS (zA_of hD) (fun H locs hP hz hk hS => ?_)
    have hD : va_D FA (MX Y A σ hf hn wt wn tmS cdS (wdS σ) sy gp (ddS σ) (ag0 σ i0) (ag1 σ i1) (ag2 σ i2) (insI (trS σ) i3 (σ 0)) fo de) := MX_dd hD
    have kj := jCon_ju σ i0 i1 i2 i3
    refine lv_iconst (v := (nI 0)) hx hb dX6_trial_22 (by decide) ?_
    refine lv_istore_n (lv' := [(2, .int (nI 0)), (0, .ref (A 0)), (1, .int (nI t9))]) hx hb dX6_trial_23 rfl hl (by decide) rfl (fun ls hl => ?_)
    have L24 : ∀ (n9 : Nat) (i : Nat) (hi : i ≤ nMs σ) (hz : ∀ x, x < i → resB σ t9 x = false), nMs σ - i < n9 → ∀ (H : Heap) (locs : List Loc), va_P D vwCl (MX Y A σ hf hn wt wn tmS cdS (wdS σ) sy gp (ddS σ) (ag0 σ i0) (ag1 σ i1) (ag2 σ i2) (insI (trS σ) i3 (σ 0)) fo de) H → va_D FA (MX Y A σ hf hn wt wn tmS cdS (wdS σ) sy gp (ddS σ) (ag0 σ i0) (ag1 σ i1) (ag2 σ i2) (insI (trS σ) i3 (σ 0)) fo de) → va_S FA s.heap H locs → ∀ ls : Array Slot, lv_has ls 3 [(2, .int (nI i)), (0, .ref (A 0)), (1, .int (nI t9))] → W p l e R s m args below meth c H locs 0 0 Q (F0 m 24 ls []) := by
      intro n9
      induction n9 with
      | zero => intro i hi hz hn9; exact absurd hn9 (Nat.not_lt_zero _)
      | succ n9 ih9 =>
        have ih24 := ih9
        clear ih9
        intro i hi hz hn9 H locs hP hD hS ls hl
        have hnm : nMs σ = 2 ^ (4 * σ 1) := rfl
        refine lv_iload_n hx hb dX6_trial_24 rfl (lv_at hl 0 rfl) ?_
        refine lv_aload_n hx hb dX6_trial_25 rfl (lv_at hl 1 rfl) ?_
        refine zc_r (va_runV (As := []) (rest := [.int (nI i)]) ⟨hx, hb, hml, hown, hts⟩ (c_X6_messages l D Y A σ hf hn wt wn tmS cdS (wdS σ) sy gp (ddS σ) (ag0 σ i0) (ag1 σ i1) (ag2 σ i2) (insI (trS σ) i3 (σ 0)) fo de  kσ) (cwV 0 hts gX6_trial_X6_messages rfl rfl rfl (by decide +kernel) (by rw [hR]; exact ⟨Nat.le_of_ble_eq_true rfl, Nat.le_of_ble_eq_true rfl⟩)) ⟨zB_blind, va_recv hK hP (ci := 6) (q0 := 0) rfl rfl, zp_r hP hK hN⟩ rfl rfl hl.1 rfl (lv_room (Nat.le_of_ble_eq_true rfl)) dX6_trial_26 ⟨Nat.zero_le _, Nat.zero_le _⟩).run ?_
        refine zn_icmp_ge (tgt := 49)  hx hb dX6_trial_29 (by decide) (by omega) (by omega) (fun c29 => ?_) (fun c29 => ?_)
        · obtain rfl : i = nMs σ := by omega
          refine lv_sipush (v := (-1004)) hx hb dX6_trial_49 (by decide) ?_
          exact zw_i hx hb hr hlk hQ hS dX6_trial_52 (orI_no hz) (hP)
        · refine lv_aload_n hx hb dX6_trial_32 rfl (lv_at hl 1 rfl) ?_
          refine lv_iload_n hx hb dX6_trial_33 rfl (lv_at hl 0 rfl) ?_
          refine lv_iload_n hx hb dX6_trial_34 rfl (lv_at hl 2 rfl) ?_
          refine zc_r (va_runV (As := [.int (nI i), .int (nI t9)]) (rest := []) ⟨hx, hb, hml, hown, hts⟩ (c_X6_isResult l D Y A σ hf hn wt wn sy gp (ag0 σ i0) (ag1 σ i1) (ag2 σ i2) (insI (trS σ) i3 (σ 0)) fo de i t9 kσ kj (by omega) (by omega)) (cwV 2 hts gX6_trial_X6_isResult rfl rfl rfl (by decide +kernel) (by rw [hR]; exact ⟨Nat.le_of_ble_eq_true rfl, Nat.le_of_ble_eq_true rfl⟩)) ⟨zB_blind, va_recv hK hP (ci := 6) (q0 := 0) rfl rfl, zp_r hP hK hN⟩ rfl rfl hl.1 rfl (lv_room (Nat.le_of_ble_eq_true rfl)) dX6_trial_35 ⟨Nat.zero_le _, Nat.zero_le _⟩).run ?_
          refine zb_if_eq (tgt := 43)  hx hb dX6_trial_38 (by decide)  (fun c38 => ?_) (fun c38 => ?_)
          · refine lv_iinc (v := (nI (i + 1))) (lv' := [(2, .int (nI (i + 1))), (0, .ref (A 0)), (1, .int (nI t9))]) hx hb dX6_trial_43 hl (k := 0) rfl (zinc _) (by decide) rfl (fun ls hl => ?_)
            refine lv_goto (tgt := 24) hx hb dX6_trial_46 (by decide) ?_
            have hP : va_P D vwCl (MX Y A σ hf hn wt wn tmS cdS (wdS σ) sy gp (ddS σ) (ag0 σ i0) (ag1 σ i1) (ag2 σ i2) (insI (trS σ) i3 (σ 0)) fo de) H := hP
            have hD : va_D FA (MX Y A σ hf hn wt wn tmS cdS (wdS σ) sy gp (ddS σ) (ag0 σ i0) (ag1 σ i1) (ag2 σ i2) (insI (trS σ) i3 (σ 0)) fo de) := MX_dd hD
            exact ih24 (i + 1) (by omega) (all_up hz c38) (by omega) H locs hP hD hS ls (lv_sub hl [0, 1, 2] rfl)
          · refine lv_iload_n hx hb dX6_trial_41 rfl (lv_at hl 0 rfl) ?_
            exact zw_i hx hb hr hlk hQ hS dX6_trial_42 (orI_at hz c38 (by omega)) (hP)
    have hP : va_P D vwCl (MX Y A σ hf hn wt wn tmS cdS (wdS σ) sy gp (ddS σ) (ag0 σ i0) (ag1 σ i1) (ag2 σ i2) (insI (trS σ) i3 (σ 0)) fo de) H := hP
    have hD : va_D FA (MX Y A σ hf hn wt wn tmS cdS (wdS σ) sy gp (ddS σ) (ag0 σ i0) (ag1 σ i1) (ag2 σ i2) (insI (trS σ) i3 (σ 0)) fo de) := MX_dd hD
    exact L24 (nMs σ - 0 + 1) 0 (by omega) (fun x hx => absurd hx (Nat.not_lt_zero x)) (Nat.lt_succ_self _) _ _ hP hD hS ls (lv_sub hl [0, 1, 2] rfl)
  · exact absurd c11 (by omega)
