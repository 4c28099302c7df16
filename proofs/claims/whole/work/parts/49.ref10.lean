theorem qX6_burst_Cond_fieldLink_RX6_7_NestedCodesModel_d_I_ : Cond.fieldLink RX6 7 "NestedCodesModel" "d" "[I" ∈ wsX6_burst := by decide +kernel
theorem qX6_burst_inX6 : ∀ w ∈ wsX60, w ∈ wsX6_burst := by decide +kernel
set_option maxHeartbeats 4000000 in
set_option maxRecDepth 100000 in
theorem c_X6_burst_bad (l : Launch) (D : va_G) (Y : Nat → ClassId) (A : Nat → Nat) (σ : Nat → Nat) (hf : Nat → Nat) (hn : Nat) (wt : Nat → Nat) (wn : Nat) (sy : Nat → Nat) (gp : Nat → Nat) (i0 : Nat → Nat) (i1 : Nat → Nat) (i2 : Nat → Nat) (i3 : Nat → Nat) (fo : Int32) (de : Int32) (x : Int32) (y : Int32)  (kσ : zWF σ) (ksy : ∀ w9, w9 < 2 ^ (σ 2) → sy w9 = syS σ w9) (kgp : ∀ w9, w9 < 2 ^ (σ 2) → gp w9 = gpS σ w9) (hbad : ¬ (0 ≤ (x).toInt ∧ (x).toInt < ((σ 2 * σ 0 : Nat) : Int) ∧ 1 ≤ (y).toInt ∧ (y).toInt ≤ ((σ 2 * σ 0 : Nat) : Int) - (x).toInt)) : Met l yX6_burst wsX6_burst ({ frames := 1, cells := 0, slots := 0, locals := 22 } : Room) (va_Pc [.ref (A 0), .int (x), .int (y)] (zB D Y (MX Y A σ hf hn wt wn tmS cdS (wdS σ) sy gp (ddS σ) i0 i1 i2 i3 fo de))) (zR (.int (-1001))) 0 0 (fun _ => False) := by
  refine zr_of (cc := cX6_burst) (maxL := 5) (ret := (some .int)) (by decide) rfl (Nat.le_of_ble_eq_true rfl) ?_
  intro p e s m below meth c R args Q hR hx hb hml hr hlk hown hts hK hN hP hQ ls hl
  have hown : s.vm.findClass RX6 = some m.cls := hown
  have hl : lv_has ls 5 [(0, .ref (A 0)), (1, .int (x)), (2, .int (y))] := hl
  have kw := kσ
  obtain ⟨n3, n12, d1, d3, dn, b4, b10, gl, lm, sn, wl, wnz⟩ := kw
  have pb := zp_b b10
  have pk9 := zp_k d3
  have hmu : σ 2 * σ 0 ≤ 10 * 12 := Nat.mul_le_mul b10 n12
  have hmp : 4 * 3 ≤ σ 2 * σ 0 := Nat.mul_le_mul b4 n3
  refine lv_aload_n hx hb dX6_burst_0 rfl (lv_at hl 0 rfl) ?_
  refine va_get (D := D) (ci := 6) (v := .ref (A 1)) (C := RX6) (T := TX6) (N := 17) hx hb hts qX6_burst_inX6 hown hK hP 0 rfl rfl 0 (by decide) (hts _ qX6_burst_Cond_fieldLink_RX6_7_NestedCodesModel_d_I_) (fun _ h9 => h9) rfl dX6_burst_1 ?_
  refine lv_iconst (v := (nI 0)) hx hb dX6_burst_4 (by decide) ?_
  refine za_i hx hb hK hP 1 (f := fun k9 => nI (σ k9)) (v := (nI (σ 0))) rfl (by omega) (by decide) dX6_burst_5 (rfl) ?_
  refine lv_aload_n hx hb dX6_burst_6 rfl (lv_at hl 0 rfl) ?_
  refine va_get (D := D) (ci := 6) (v := .ref (A 1)) (C := RX6) (T := TX6) (N := 17) hx hb hts qX6_burst_inX6 hown hK hP 0 rfl rfl 0 (by decide) (hts _ qX6_burst_Cond_fieldLink_RX6_7_NestedCodesModel_d_I_) (fun _ h9 => h9) rfl dX6_burst_7 ?_
  refine lv_iconst (v := (nI 2)) hx hb dX6_burst_10 (by decide) ?_
  refine za_i hx hb hK hP 1 (f := fun k9 => nI (σ k9)) (v := (nI (σ 2))) rfl (by omega) (by decide) dX6_burst_11 (rfl) ?_
  refine zv_imul hx hb (v := (nI (σ 2 * σ 0))) dX6_burst_12 ((pk_mul _ _).trans (congrArg nI (Nat.mul_comm _ _))) ?_
  refine lv_istore_n (lv' := [(3, .int (nI (σ 2 * σ 0))), (0, .ref (A 0)), (1, .int (x)), (2, .int (y))]) hx hb dX6_burst_13 rfl hl (by decide) rfl (fun ls hl => ?_)
  refine lv_iload_n hx hb dX6_burst_14 rfl (lv_at hl 2 rfl) ?_
  refine lv_iconst (v := (nI 0)) hx hb dX6_burst_15 (by decide) ?_
  refine lv_iload_n hx hb dX6_burst_16 rfl (lv_at hl 0 rfl) ?_
  refine lv_iconst (v := (nI 1)) hx hb dX6_burst_17 (by decide) ?_
  refine zv_isub hx hb (v := (nI ((σ 2 * σ 0) - 1))) dX6_burst_18 (pk_sub (by omega)) ?_
  refine zc_r (va_runS (As := [.int (x), .int (nI 0), .int (nI ((σ 2 * σ 0) - 1))]) (rest := []) ⟨hx, hb, hml, hown, hts⟩ (c_X6_in l D Y  x ((nI 0)) ((nI ((σ 2 * σ 0) - 1))) ) (va_cwS 3 hts gX6_burst_X6_in rfl rfl rfl (by decide +kernel) (by rw [hR]; exact ⟨Nat.le_of_ble_eq_true rfl, Nat.le_of_ble_eq_true rfl⟩)) ⟨zB_blind, (zp_r (v := [.int (x), .int (nI 0), .int (nI ((σ 2 * σ 0) - 1))]) (fun k q h => absurd h (by simp)) hK hN)⟩ rfl rfl hl.1 rfl (lv_room (Nat.le_of_ble_eq_true rfl)) dX6_burst_19 ⟨Nat.zero_le _, Nat.zero_le _⟩).run ?_
  have h19a : ((nI 0)).toInt = _ := zt_n (by omega)
  have h19b : ((nI ((σ 2 * σ 0) - 1))).toInt = _ := zt_n (by omega)
  refine zb_if_eq (tgt := 36)  hx hb dX6_burst_22 (by decide)  (fun c22 => ?_) (fun c22 => ?_)
  · refine lv_sipush (v := (-1001)) hx hb dX6_burst_36 (by decide) ?_
    exact zr_i hx hb hr hlk hQ dX6_burst_39 (rfl)
  · refine lv_iload_n hx hb dX6_burst_25 rfl (lv_at hl 3 rfl) ?_
    refine lv_iconst (v := (nI 1)) hx hb dX6_burst_26 (by decide) ?_
    refine lv_iload_n hx hb dX6_burst_27 rfl (lv_at hl 0 rfl) ?_
    refine lv_iload_n hx hb dX6_burst_28 rfl (lv_at hl 2 rfl) ?_
    refine zv_isub hx hb (v := (zI (((σ 2 * σ 0 : Nat) : Int) - (x).toInt))) dX6_burst_29 (zI_subx _ x) ?_
    refine zc_r (va_runS (As := [.int (y), .int (nI 1), .int (zI (((σ 2 * σ 0 : Nat) : Int) - (x).toInt))]) (rest := []) ⟨hx, hb, hml, hown, hts⟩ (c_X6_in l D Y  y ((nI 1)) ((zI (((σ 2 * σ 0 : Nat) : Int) - (x).toInt))) ) (va_cwS 3 hts gX6_burst_X6_in rfl rfl rfl (by decide +kernel) (by rw [hR]; exact ⟨Nat.le_of_ble_eq_true rfl, Nat.le_of_ble_eq_true rfl⟩)) ⟨zB_blind, (zp_r (v := [.int (y), .int (nI 1), .int (zI (((σ 2 * σ 0 : Nat) : Int) - (x).toInt))]) (fun k q h => absurd h (by simp)) hK hN)⟩ rfl rfl hl.1 rfl (lv_room (Nat.le_of_ble_eq_true rfl)) dX6_burst_30 ⟨Nat.zero_le _, Nat.zero_le _⟩).run ?_
    have h30a : ((nI 1)).toInt = _ := zt_n (by omega)
    have h30b : ((zI (((σ 2 * σ 0 : Nat) : Int) - (x).toInt))).toInt = _ := zI_toInt (by omega) (by omega)
    refine zb_if_ne (tgt := 40)  hx hb dX6_burst_33 (by decide)  (fun c33 => ?_) (fun c33 => ?_)
    · exact absurd c33 (by omega)
    · refine lv_sipush (v := (-1001)) hx hb dX6_burst_36 (by decide) ?_
      exact zr_i hx hb hr hlk hQ dX6_burst_39 (rfl)
set_option maxHeartbeats 4000000 in
set_option maxRecDepth 100000 in
theorem c_X6_burst (l : Launch) (D : va_G) (Y : Nat → ClassId) (A : Nat → Nat) (σ : Nat → Nat) (hf : Nat → Nat) (hn : Nat) (wt : Nat → Nat) (wn : Nat) (sy : Nat → Nat) (gp : Nat → Nat) (i0 : Nat → Nat) (i1 : Nat → Nat) (i2 : Nat → Nat) (i3 : Nat → Nat) (fo : Int32) (de : Int32) (st : Nat) (le : Nat)  (kσ : zWF σ) (ksy : ∀ w9, w9 < 2 ^ (σ 2) → sy w9 = syS σ w9) (kgp : ∀ w9, w9 < 2 ^ (σ 2) → gp w9 = gpS σ w9) (khn : hn ≤ 6) (hst : st < σ 2 * σ 0) (hl1 : 1 ≤ le) (hl2 : le ≤ σ 2 * σ 0 - st) : Met l yX6_burst wsX6_burst ({ frames := 1, cells := 0, slots := 0, locals := 22 } : Room) (va_Pc [.ref (A 0), .int (nI st), .int (nI le)] (zBw D Y (MX Y A σ hf hn wt wn tmS cdS (wdS σ) sy gp (ddS σ) i0 i1 i2 i3 fo de))) (zW (some (.int (nI (cnt (fun j => !(bmask (σ 2) j st (st + le) == 0)) (σ 0))))) D (MX Y A (burI σ st (st + le) (σ 0)) (recF hf hn σ) (recN hn) wt wn tmS cdS (wdS (burI σ st (st + le) (σ 0))) sy gp (ddS (burI σ st (st + le) (σ 0))) i0 i1 i2 i3 fo de) (zA (MX Y A σ hf hn wt wn tmS cdS (wdS σ) sy gp (ddS σ) i0 i1 i2 i3 fo de))) 0 0 (zA (MX Y A σ hf hn wt wn tmS cdS (wdS σ) sy gp (ddS σ) i0 i1 i2 i3 fo de)) := by
  refine zw_of (cc := cX6_burst) (maxL := 5) (ret := (some .int)) (by decide) rfl (Nat.le_of_ble_eq_true rfl) ?_
  intro p e s m below meth c R args Q FA hR hx hb hml hr hlk hown hts hK hN hQ hP hD hS ls hl
  have hown : s.vm.findClass RX6 = some m.cls := hown
  have hl : lv_has ls 5 [(0, .ref (A 0)), (1, .int (nI st)), (2, .int (nI le))] := hl
  have hS := hS
  have kw := kσ
  obtain ⟨n3, n12, d1, d3, dn, b4, b10, gl, lm, sn, wl, wnz⟩ := kw
  have pb := zp_b b10
  have pk9 := zp_k d3
  suffices hgo : ∀ (H : Heap) (locs : List Loc), va_P D vwCl (MX Y A σ hf hn wt wn tmS cdS (wdS σ) sy gp (ddS σ) i0 i1 i2 i3 fo de) H → va_S FA s.heap H locs → W p l e R s m args below meth c H locs 0 0 Q (F0 m 0 ls []) from hgo _ _ hP hS
  clear hP hS
  intro H locs hP hS
  have hmu : σ 2 * σ 0 ≤ 10 * 12 := Nat.mul_le_mul b10 n12
  have hmp : 4 * 3 ≤ σ 2 * σ 0 := Nat.mul_le_mul b4 n3
  refine lv_aload_n hx hb dX6_burst_0 rfl (lv_at hl 0 rfl) ?_
  refine va_get (D := D) (ci := 6) (v := .ref (A 1)) (C := RX6) (T := TX6) (N := 17) hx hb hts qX6_burst_inX6 hown hK hP 0 rfl rfl 0 (by decide) (hts _ qX6_burst_Cond_fieldLink_RX6_7_NestedCodesModel_d_I_) (fun _ h9 => h9) rfl dX6_burst_1 ?_
  refine lv_iconst (v := (nI 0)) hx hb dX6_burst_4 (by decide) ?_
  refine za_i hx hb hK hP 1 (f := fun k9 => nI (σ k9)) (v := (nI (σ 0))) rfl (by omega) (by decide) dX6_burst_5 (rfl) ?_
  refine lv_aload_n hx hb dX6_burst_6 rfl (lv_at hl 0 rfl) ?_
  refine va_get (D := D) (ci := 6) (v := .ref (A 1)) (C := RX6) (T := TX6) (N := 17) hx hb hts qX6_burst_inX6 hown hK hP 0 rfl rfl 0 (by decide) (hts _ qX6_burst_Cond_fieldLink_RX6_7_NestedCodesModel_d_I_) (fun _ h9 => h9) rfl dX6_burst_7 ?_
  refine lv_iconst (v := (nI 2)) hx hb dX6_burst_10 (by decide) ?_
  refine za_i hx hb hK hP 1 (f := fun k9 => nI (σ k9)) (v := (nI (σ 2))) rfl (by omega) (by decide) dX6_burst_11 (rfl) ?_
  refine zv_imul hx hb (v := (nI (σ 2 * σ 0))) dX6_burst_12 ((pk_mul _ _).trans (congrArg nI (Nat.mul_comm _ _))) ?_
  refine lv_istore_n (lv' := [(3, .int (nI (σ 2 * σ 0))), (0, .ref (A 0)), (1, .int (nI st)), (2, .int (nI le))]) hx hb dX6_burst_13 rfl hl (by decide) rfl (fun ls hl => ?_)
  refine lv_iload_n hx hb dX6_burst_14 rfl (lv_at hl 2 rfl) ?_
  refine lv_iconst (v := (nI 0)) hx hb dX6_burst_15 (by decide) ?_
  refine lv_iload_n hx hb dX6_burst_16 rfl (lv_at hl 0 rfl) ?_
  refine lv_iconst (v := (nI 1)) hx hb dX6_burst_17 (by decide) ?_
  refine zv_isub hx hb (v := (nI ((σ 2 * σ 0) - 1))) dX6_burst_18 (pk_sub (by omega)) ?_
  refine zc_r (va_runS (As := [.int (nI st), .int (nI 0), .int (nI ((σ 2 * σ 0) - 1))]) (rest := []) ⟨hx, hb, hml, hown, hts⟩ (c_X6_in l D Y  ((nI st)) ((nI 0)) ((nI ((σ 2 * σ 0) - 1))) ) (va_cwS 3 hts gX6_burst_X6_in rfl rfl rfl (by decide +kernel) (by rw [hR]; exact ⟨Nat.le_of_ble_eq_true rfl, Nat.le_of_ble_eq_true rfl⟩)) ⟨zB_blind, (zp_r (v := [.int (nI st), .int (nI 0), .int (nI ((σ 2 * σ 0) - 1))]) (fun k q h => absurd h (by simp)) hK hN)⟩ rfl rfl hl.1 rfl (lv_room (Nat.le_of_ble_eq_true rfl)) dX6_burst_19 ⟨Nat.zero_le _, Nat.zero_le _⟩).run ?_
  have h19v : ((nI st)).toInt = _ := zt_n (by omega)
  have h19a : ((nI 0)).toInt = _ := zt_n (by omega)
  have h19b : ((nI ((σ 2 * σ 0) - 1))).toInt = _ := zt_n (by omega)
  refine zb_if_eq (tgt := 36)  hx hb dX6_burst_22 (by decide)  (fun c22 => ?_) (fun c22 => ?_)
  · exact absurd c22 (by omega)
  · refine lv_iload_n hx hb dX6_burst_25 rfl (lv_at hl 3 rfl) ?_
    refine lv_iconst (v := (nI 1)) hx hb dX6_burst_26 (by decide) ?_
    refine lv_iload_n hx hb dX6_burst_27 rfl (lv_at hl 0 rfl) ?_
    refine lv_iload_n hx hb dX6_burst_28 rfl (lv_at hl 2 rfl) ?_
    refine zv_isub hx hb (v := (nI ((σ 2 * σ 0) - st))) dX6_burst_29 (pk_sub (by omega)) ?_
    refine zc_r (va_runS (As := [.int (nI le), .int (nI 1), .int (nI ((σ 2 * σ 0) - st))]) (rest := []) ⟨hx, hb, hml, hown, hts⟩ (c_X6_in l D Y  ((nI le)) ((nI 1)) ((nI ((σ 2 * σ 0) - st))) ) (va_cwS 3 hts gX6_burst_X6_in rfl rfl rfl (by decide +kernel) (by rw [hR]; exact ⟨Nat.le_of_ble_eq_true rfl, Nat.le_of_ble_eq_true rfl⟩)) ⟨zB_blind, (zp_r (v := [.int (nI le), .int (nI 1), .int (nI ((σ 2 * σ 0) - st))]) (fun k q h => absurd h (by simp)) hK hN)⟩ rfl rfl hl.1 rfl (lv_room (Nat.le_of_ble_eq_true rfl)) dX6_burst_30 ⟨Nat.zero_le _, Nat.zero_le _⟩).run ?_
    have h30v : ((nI le)).toInt = _ := zt_n (by omega)
    have h30a : ((nI 1)).toInt = _ := zt_n (by omega)
    have h30b : ((nI ((σ 2 * σ 0) - st))).toInt = _ := zt_n (by omega)
    refine zb_if_ne (tgt := 40)  hx hb dX6_burst_33 (by decide)  (fun c33 => ?_) (fun c33 => ?_)
    · refine lv_aload_n hx hb dX6_burst_40 rfl (lv_at hl 1 rfl) ?_
      refine zc_w (va_runV (As := []) (rest := []) ⟨hx, hb, hml, hown, hts⟩ (c_X6_records l D Y A σ hf hn wt wn tmS cdS (wdS σ) sy gp (ddS σ) i0 i1 i2 i3 fo de  khn) (cwV 0 hts gX6_burst_X6_records rfl rfl rfl (by decide +kernel) (by rw [hR]; exact ⟨Nat.le_of_ble_eq_true rfl, Nat.le_of_ble_eq_true rfl⟩)) ⟨zBw_blind, va_recv hK hP (ci := 6) (q0 := 0) rfl rfl, zp_w hP hD hK hN⟩ rfl rfl hl.1 rfl (lv_room (Nat.le_of_ble_eq_true rfl)) dX6_burst_41 ⟨Nat.zero_le _, Nat.zero_le _⟩).run hS (zA_of hD) (fun H locs hP hz hk hS => ?_)
      have hD : va_D FA (MX Y A σ (recF hf hn σ) (recN hn) wt wn tmS cdS (wdS σ) sy gp (ddS σ) i0 i1 i2 i3 fo de) := MX_dd hD
      refine lv_iload_n hx hb dX6_burst_44 rfl (lv_at hl 2 rfl) ?_
      refine lv_istore (lv' := [(4, .int (nI st)), (3, .int (nI (σ 2 * σ 0))), (0, .ref (A 0)), (1, .int (nI st)), (2, .int (nI le))]) hx hb dX6_burst_45 hl (by decide) rfl (fun ls hl => ?_)
      have L47 : ∀ (n9 : Nat) (p9 : Nat) (hp1 : st ≤ p9) (hp2 : p9 ≤ st + le), st + le - p9 < n9 → ∀ (H : Heap) (locs : List Loc), va_P D vwCl (MX Y A ((burI σ st p9 (σ 0))) (recF hf hn σ) (recN hn) wt wn tmS cdS (wdS σ) sy gp (ddS σ) i0 i1 i2 i3 fo de) H → va_D FA (MX Y A ((burI σ st p9 (σ 0))) (recF hf hn σ) (recN hn) wt wn tmS cdS (wdS σ) sy gp (ddS σ) i0 i1 i2 i3 fo de) → va_S FA s.heap H locs → ∀ ls : Array Slot, lv_has ls 5 [(4, .int (nI p9)), (3, .int (nI (σ 2 * σ 0))), (0, .ref (A 0)), (1, .int (nI st)), (2, .int (nI le))] → W p l e R s m args below meth c H locs 0 0 Q (F0 m 47 ls []) := by
        intro n9
        induction n9 with
        | zero => intro p9 hp1 hp2 hn9; exact absurd hn9 (Nat.not_lt_zero _)
        | succ n9 ih9 =>
          have ih47 := ih9
          clear ih9
          intro p9 hp1 hp2 hn9 H locs hP hD hS ls hl
          refine lv_iload hx hb dX6_burst_47 (lv_at hl 0 rfl) ?_
          refine lv_iload_n hx hb dX6_burst_49 rfl (lv_at hl 3 rfl) ?_
          refine lv_iload_n hx hb dX6_burst_50 rfl (lv_at hl 4 rfl) ?_
          refine zv_iadd hx hb (v := (nI (st + le))) dX6_burst_51 (nI_add _ _) ?_
          refine zn_icmp_ge (tgt := 92)  hx hb dX6_burst_52 (by decide) (by omega) (by omega) (fun c52 => ?_) (fun c52 => ?_)
          · obtain rfl : p9 = st + le := by omega
            refine lv_iload_n hx hb dX6_burst_92 rfl (lv_at hl 3 rfl) ?_
            refine lv_iload_n hx hb dX6_burst_93 rfl (lv_at hl 4 rfl) ?_
            refine zv_iadd hx hb (v := (nI (st + le))) dX6_burst_94 (nI_add _ _) ?_
            refine lv_iconst (v := (nI 1)) hx hb dX6_burst_95 (by decide) ?_
            refine zv_isub hx hb (v := (nI ((st + le) - 1))) dX6_burst_96 (pk_sub (by omega)) ?_
            refine lv_aload_n hx hb dX6_burst_97 rfl (lv_at hl 2 rfl) ?_
            refine va_get (D := D) (ci := 6) (v := .ref (A 1)) (C := RX6) (T := TX6) (N := 17) hx hb hts qX6_burst_inX6 hown hK hP 0 rfl rfl 0 (by decide) (hts _ qX6_burst_Cond_fieldLink_RX6_7_NestedCodesModel_d_I_) (fun _ h9 => h9) rfl dX6_burst_98 ?_
            refine lv_iconst (v := (nI 2)) hx hb dX6_burst_101 (by decide) ?_
            refine za_i hx hb hK hP 1 (f := fun k9 => nI ((burI σ st (st + le) (σ 0)) k9)) (v := (nI (σ 2))) rfl (by omega) (by decide) dX6_burst_102 (congrArg nI (burI_out _ _ _ _ (by omega))) ?_
            refine zv_idiv hx hb (v := (nI (((st + le) - 1) / (σ 2)))) dX6_burst_103 (by omega) (by omega) (zdiv (by omega) (by omega) (by omega)) ?_
            refine lv_iload_n hx hb dX6_burst_104 rfl (lv_at hl 3 rfl) ?_
            refine lv_aload_n hx hb dX6_burst_105 rfl (lv_at hl 2 rfl) ?_
            refine va_get (D := D) (ci := 6) (v := .ref (A 1)) (C := RX6) (T := TX6) (N := 17) hx hb hts qX6_burst_inX6 hown hK hP 0 rfl rfl 0 (by decide) (hts _ qX6_burst_Cond_fieldLink_RX6_7_NestedCodesModel_d_I_) (fun _ h9 => h9) rfl dX6_burst_106 ?_
            refine lv_iconst (v := (nI 2)) hx hb dX6_burst_109 (by decide) ?_
            refine za_i hx hb hK hP 1 (f := fun k9 => nI ((burI σ st (st + le) (σ 0)) k9)) (v := (nI (σ 2))) rfl (by omega) (by decide) dX6_burst_110 (congrArg nI (burI_out _ _ _ _ (by omega))) ?_
            refine zv_idiv hx hb (v := (nI (st / (σ 2)))) dX6_burst_111 (by omega) (by omega) (zdiv (by omega) (by omega) (by omega)) ?_
            refine zv_isub hx hb (v := (nI ((((st + le) - 1) / (σ 2)) - (st / (σ 2))))) dX6_burst_112 (pk_sub (Nat.div_le_div_right (by omega))) ?_
            refine lv_iconst (v := (nI 1)) hx hb dX6_burst_113 (by decide) ?_
            refine zv_iadd hx hb (v := (nI (((((st + le) - 1) / (σ 2)) - (st / (σ 2))) + 1))) dX6_burst_114 (nI_add _ _) ?_
            exact zw_i hx hb hr hlk hQ hS dX6_burst_115 (congrArg nI (bur_cnt (by omega) hl1 (by omega))) ((by rw [wd_same (bur_g σ st (st + le) (σ 0)), dd_same (bur_g σ st (st + le) (σ 0))]; exact hP))
          · have hq9 : p9 / σ 2 < σ 0 := (Nat.div_lt_iff_lt_mul (by omega)).mpr (by rw [Nat.mul_comm]; omega)
            have hr9 : p9 % σ 2 < σ 2 := Nat.mod_lt _ (by omega)
            have h2r : 2 ^ (p9 % σ 2) ≤ 2 ^ 10 := Nat.pow_le_pow_right (by decide) (by omega)
            refine lv_aload_n hx hb dX6_burst_55 rfl (lv_at hl 2 rfl) ?_
            refine va_get (D := D) (ci := 6) (v := .ref (A 1)) (C := RX6) (T := TX6) (N := 17) hx hb hts qX6_burst_inX6 hown hK hP 0 rfl rfl 0 (by decide) (hts _ qX6_burst_Cond_fieldLink_RX6_7_NestedCodesModel_d_I_) (fun _ h9 => h9) rfl dX6_burst_56 ?_
            refine lv_bipush (v := (nI 9)) hx hb dX6_burst_59 (by decide) ?_
            refine lv_iload hx hb dX6_burst_61 (lv_at hl 0 rfl) ?_
            refine lv_aload_n hx hb dX6_burst_63 rfl (lv_at hl 2 rfl) ?_
            refine va_get (D := D) (ci := 6) (v := .ref (A 1)) (C := RX6) (T := TX6) (N := 17) hx hb hts qX6_burst_inX6 hown hK hP 0 rfl rfl 0 (by decide) (hts _ qX6_burst_Cond_fieldLink_RX6_7_NestedCodesModel_d_I_) (fun _ h9 => h9) rfl dX6_burst_64 ?_
            refine lv_iconst (v := (nI 2)) hx hb dX6_burst_67 (by decide) ?_
            refine za_i hx hb hK hP 1 (f := fun k9 => nI ((burI σ st p9 (σ 0)) k9)) (v := (nI (σ 2))) rfl (by omega) (by decide) dX6_burst_68 (congrArg nI (burI_out _ _ _ _ (by omega))) ?_
            refine zv_idiv hx hb (v := (nI (p9 / (σ 2)))) dX6_burst_69 (by omega) (by omega) (zdiv (by omega) (by omega) (by omega)) ?_
            refine zv_iadd hx hb (v := (nI (9 + (p9 / (σ 2))))) dX6_burst_70 (nI_add _ _) ?_
            refine lv_dup2_11 hx hb dX6_burst_71 rfl rfl ?_
            refine za_i hx hb hK hP 1 (f := fun k9 => nI ((burI σ st p9 (σ 0)) k9)) (v := (nI ((burI σ st p9 (σ 0)) (9 + (p9 / (σ 2)))))) rfl (by omega) (by decide) dX6_burst_72 (rfl) ?_
            refine lv_iconst (v := (nI 1)) hx hb dX6_burst_73 (by decide) ?_
            refine lv_iload hx hb dX6_burst_74 (lv_at hl 0 rfl) ?_
            refine lv_aload_n hx hb dX6_burst_76 rfl (lv_at hl 2 rfl) ?_
            refine va_get (D := D) (ci := 6) (v := .ref (A 1)) (C := RX6) (T := TX6) (N := 17) hx hb hts qX6_burst_inX6 hown hK hP 0 rfl rfl 0 (by decide) (hts _ qX6_burst_Cond_fieldLink_RX6_7_NestedCodesModel_d_I_) (fun _ h9 => h9) rfl dX6_burst_77 ?_
            refine lv_iconst (v := (nI 2)) hx hb dX6_burst_80 (by decide) ?_
            refine za_i hx hb hK hP 1 (f := fun k9 => nI ((burI σ st p9 (σ 0)) k9)) (v := (nI (σ 2))) rfl (by omega) (by decide) dX6_burst_81 (congrArg nI (burI_out _ _ _ _ (by omega))) ?_
            refine zv_irem hx hb (v := (nI (p9 % (σ 2)))) dX6_burst_82 (by omega) (by omega) (zrem (by omega) (by omega) (by omega)) ?_
            refine zv_ishl hx hb (v := (nI (2 ^ (p9 % σ 2)))) dX6_burst_83 (by rw [zShl (by omega) (by omega), Nat.one_mul]) ?_
            refine zv_ixor hx hb (v := (nI (((burI σ st p9 (σ 0)) (9 + (p9 / (σ 2)))) ^^^ (2 ^ (p9 % σ 2))))) dX6_burst_84 (nx_xor _ _) ?_
            refine zs_i hx hb hK hP hD hS 1 (f := fun k9 => nI ((burI σ st p9 (σ 0)) k9)) rfl (by omega) (by decide) dX6_burst_85 (fun H locs hP hD9 hS => ?_)
            rw [zupd] at hP
            rw [MX_s1] at hP
            have hP : va_P D vwCl (MX Y A (va_up (burI σ st p9 (σ 0)) (9 + (p9 / (σ 2))) (((burI σ st p9 (σ 0)) (9 + (p9 / (σ 2)))) ^^^ (2 ^ (p9 % σ 2)))) (recF hf hn σ) (recN hn) wt wn tmS cdS (wdS σ) sy gp (ddS σ) i0 i1 i2 i3 fo de) H := hP
            have hD : va_D FA (MX Y A (va_up (burI σ st p9 (σ 0)) (9 + (p9 / (σ 2))) (((burI σ st p9 (σ 0)) (9 + (p9 / (σ 2)))) ^^^ (2 ^ (p9 % σ 2)))) (recF hf hn σ) (recN hn) wt wn tmS cdS (wdS σ) sy gp (ddS σ) i0 i1 i2 i3 fo de) := MX_dd hD
            clear hD9
            refine lv_iinc (v := (nI (p9 + 1))) (lv' := [(4, .int (nI (p9 + 1))), (3, .int (nI (σ 2 * σ 0))), (0, .ref (A 0)), (1, .int (nI st)), (2, .int (nI le))]) hx hb dX6_burst_86 hl (k := 0) rfl (zinc _) (by decide) rfl (fun ls hl => ?_)
            refine lv_goto (tgt := 47) hx hb dX6_burst_89 (by decide) ?_
            have e9 : (va_up (burI σ st p9 (σ 0)) (9 + (p9 / (σ 2))) (((burI σ st p9 (σ 0)) (9 + (p9 / (σ 2)))) ^^^ (2 ^ (p9 % σ 2)))) = (burI σ st (p9 + 1) (σ 0)) := burP_up σ (by omega) (by omega) hq9
            rw [e9] at hP
            clear e9
            have hP : va_P D vwCl (MX Y A ((burI σ st (p9 + 1) (σ 0))) (recF hf hn σ) (recN hn) wt wn tmS cdS (wdS σ) sy gp (ddS σ) i0 i1 i2 i3 fo de) H := hP
            have hD : va_D FA (MX Y A ((burI σ st (p9 + 1) (σ 0))) (recF hf hn σ) (recN hn) wt wn tmS cdS (wdS σ) sy gp (ddS σ) i0 i1 i2 i3 fo de) := MX_dd hD
            exact ih47 (p9 + 1) (by omega) (by omega) (by omega) H locs hP hD hS ls (lv_sub hl [0, 1, 2, 3, 4] rfl)
      have hP : va_P D vwCl (MX Y A ((burI σ st st (σ 0))) (recF hf hn σ) (recN hn) wt wn tmS cdS (wdS σ) sy gp (ddS σ) i0 i1 i2 i3 fo de) H := by rw [← (burP_0 σ st (σ 0)).symm]; exact hP
      have hP : va_P D vwCl (MX Y A ((burI σ st st (σ 0))) (recF hf hn σ) (recN hn) wt wn tmS cdS (wdS σ) sy gp (ddS σ) i0 i1 i2 i3 fo de) H := hP
      have hD : va_D FA (MX Y A ((burI σ st st (σ 0))) (recF hf hn σ) (recN hn) wt wn tmS cdS (wdS σ) sy gp (ddS σ) i0 i1 i2 i3 fo de) := MX_dd hD
      exact L47 (st + le - st + 1) st (by omega) (by omega) (Nat.lt_succ_self _) _ _ hP hD hS ls (lv_sub hl [0, 1, 2, 3, 4] rfl)
    · exact absurd c33 (by omega)
theorem qX6_strength_Cond_fieldLink_RX6_7_NestedCodesModel_d_I_ : Cond.fieldLink RX6 7 "NestedCodesModel" "d" "[I" ∈ wsX6_strength := by decide +kernel
theorem qX6_strength_inX6 : ∀ w ∈ wsX60, w ∈ wsX6_strength := by decide +kernel
theorem qX6_strength_Cond_fieldLink_RX6_30_NestedCodesModel_symbol_I_ : Cond.fieldLink RX6 30 "NestedCodesModel" "symbol" "[I" ∈ wsX6_strength := by decide +kernel
set_option maxHeartbeats 4000000 in
set_option maxRecDepth 100000 in
theorem c_X6_strength (l : Launch) (D : va_G) (Y : Nat → ClassId) (A : Nat → Nat) (σ : Nat → Nat) (hf : Nat → Nat) (hn : Nat) (wt : Nat → Nat) (wn : Nat) (sy : Nat → Nat) (gp : Nat → Nat) (i0 : Nat → Nat) (i1 : Nat → Nat) (i2 : Nat → Nat) (i3 : Nat → Nat) (fo : Int32) (de : Int32) (j : Nat)  (kσ : zWF σ) (ksy : ∀ w9, w9 < 2 ^ (σ 2) → sy w9 = syS σ w9) (kgp : ∀ w9, w9 < 2 ^ (σ 2) → gp w9 = gpS σ w9) (hj : j < σ 0) (hls : zL (σ 7) j = 0) : Met l yX6_strength wsX6_strength ({ frames := 2, cells := 0, slots := 0, locals := 43 } : Room) (va_Pc [.ref (A 0), .int (nI j)] (zB D Y (MX Y A σ hf hn wt wn tmS cdS (wdS σ) sy gp (ddS σ) i0 i1 i2 i3 fo de))) (zR (.int (nI (strS σ (σ (9 + j)))))) 0 0 (fun _ => False) := by
  refine zr_of (cc := cX6_strength) (maxL := 5) (ret := (some .int)) (by decide) rfl (Nat.le_of_ble_eq_true rfl) ?_
  intro p e s m below meth c R args Q hR hx hb hml hr hlk hown hts hK hN hP hQ ls hl
  have hown : s.vm.findClass RX6 = some m.cls := hown
  have hl : lv_has ls 5 [(0, .ref (A 0)), (1, .int (nI j))] := hl
  have kw := kσ
  obtain ⟨n3, n12, d1, d3, dn, b4, b10, gl, lm, sn, wl, wnz⟩ := kw
  have pb := zp_b b10
  have pk9 := zp_k d3
  have p2 := Nat.two_pow_pos (σ 2)
  refine lv_aload_n hx hb dX6_strength_0 rfl (lv_at hl 0 rfl) ?_
  refine lv_iload_n hx hb dX6_strength_1 rfl (lv_at hl 1 rfl) ?_
  refine zc_r (va_runV (As := [.int (nI j)]) (rest := []) ⟨hx, hb, hml, hown, hts⟩ (c_X6_isBlock l D Y A σ hf hn wt wn tmS cdS (wdS σ) sy gp (ddS σ) i0 i1 i2 i3 fo de ((nI j)) n12 (by omega)) (cwV 1 hts gX6_strength_X6_isBlock rfl rfl rfl (by decide +kernel) (by rw [hR]; exact ⟨Nat.le_of_ble_eq_true rfl, Nat.le_of_ble_eq_true rfl⟩)) ⟨zB_blind, va_recv hK hP (ci := 6) (q0 := 0) rfl rfl, zp_r hP hK hN⟩ rfl rfl hl.1 rfl (lv_room (Nat.le_of_ble_eq_true rfl)) dX6_strength_2 ⟨Nat.zero_le _, Nat.zero_le _⟩).run ?_
  refine zb_if_ne (tgt := 12)  hx hb dX6_strength_5 (by decide)  (fun c5 => ?_) (fun c5 => ?_)
  · refine lv_aload_n hx hb dX6_strength_12 rfl (lv_at hl 0 rfl) ?_
    refine lv_iload_n hx hb dX6_strength_13 rfl (lv_at hl 1 rfl) ?_
    refine zc_r (va_runV (As := [.int (nI j)]) (rest := []) ⟨hx, hb, hml, hown, hts⟩ (c_X6_isLost l D Y A σ hf hn wt wn tmS cdS (wdS σ) sy gp (ddS σ) i0 i1 i2 i3 fo de j lm (by omega)) (cwV 1 hts gX6_strength_X6_isLost rfl rfl rfl (by decide +kernel) (by rw [hR]; exact ⟨Nat.le_of_ble_eq_true rfl, Nat.le_of_ble_eq_true rfl⟩)) ⟨zB_blind, va_recv hK hP (ci := 6) (q0 := 0) rfl rfl, zp_r hP hK hN⟩ rfl rfl hl.1 rfl (lv_room (Nat.le_of_ble_eq_true rfl)) dX6_strength_14 ⟨Nat.zero_le _, Nat.zero_le _⟩).run ?_
    refine zb_if_eq (tgt := 24)  hx hb dX6_strength_17 (by decide)  (fun c17 => ?_) (fun c17 => ?_)
    · refine lv_bipush (v := (nI 99)) hx hb dX6_strength_24 (by decide) ?_
      refine lv_istore_n (lv' := [(2, .int (nI 99)), (0, .ref (A 0)), (1, .int (nI j))]) hx hb dX6_strength_26 rfl hl (by decide) rfl (fun ls hl => ?_)
      refine lv_iconst (v := (nI 0)) hx hb dX6_strength_27 (by decide) ?_
      refine lv_istore_n (lv' := [(3, .int (nI 0)), (2, .int (nI 99)), (0, .ref (A 0)), (1, .int (nI j))]) hx hb dX6_strength_28 rfl hl (by decide) rfl (fun ls hl => ?_)
      have L29 : ∀ (n9 : Nat) (i : Nat) (hi : i ≤ 2 ^ (σ 2)), 2 ^ (σ 2) - i < n9 → ∀ ls : Array Slot, lv_has ls 5 [(3, .int (nI i)), (2, .int (nI (snI σ (σ (9 + j)) i))), (0, .ref (A 0)), (1, .int (nI j))] → W p l e R s m args below meth c s.heap [] 0 0 Q (F0 m 29 ls []) := by
        intro n9
        induction n9 with
        | zero => intro i hi hn9; exact absurd hn9 (Nat.not_lt_zero _)
        | succ n9 ih9 =>
          have ih29 := ih9
          clear ih9
          intro i hi hn9 ls hl
          have hsn := snI_le σ (σ (9 + j)) i
          have hs1 := syS_lt σ i
          have hs2 := syS_lt σ (σ (9 + j))
          have hpw := popc_le (i ^^^ σ (9 + j))
          refine lv_iload_n hx hb dX6_strength_29 rfl (lv_at hl 0 rfl) ?_
          refine lv_iconst (v := (nI 1)) hx hb dX6_strength_30 (by decide) ?_
          refine lv_aload_n hx hb dX6_strength_31 rfl (lv_at hl 2 rfl) ?_
          refine va_get (D := D) (ci := 6) (v := .ref (A 1)) (C := RX6) (T := TX6) (N := 17) hx hb hts qX6_strength_inX6 hown hK hP 0 rfl rfl 0 (by decide) (hts _ qX6_strength_Cond_fieldLink_RX6_7_NestedCodesModel_d_I_) (fun _ h9 => h9) rfl dX6_strength_32 ?_
          refine lv_iconst (v := (nI 2)) hx hb dX6_strength_35 (by decide) ?_
          refine za_i hx hb hK hP 1 (f := fun k9 => nI (σ k9)) (v := (nI (σ 2))) rfl (by omega) (by decide) dX6_strength_36 (rfl) ?_
          refine zv_ishl hx hb (v := (nI (2 ^ (σ 2)))) dX6_strength_37 (by rw [zShl (by omega) (by omega), Nat.one_mul]) ?_
          refine zn_icmp_ge (tgt := 99)  hx hb dX6_strength_38 (by decide) (by omega) (by omega) (fun c38 => ?_) (fun c38 => ?_)
          · obtain rfl : i = 2 ^ (σ 2) := by omega
            refine lv_iload_n hx hb dX6_strength_99 rfl (lv_at hl 1 rfl) ?_
            exact zr_i hx hb hr hlk hQ dX6_strength_100 (congrArg nI (str_ok kσ (wl j (by omega))))
          · refine lv_iload_n hx hb dX6_strength_41 rfl (lv_at hl 0 rfl) ?_
            refine lv_aload_n hx hb dX6_strength_42 rfl (lv_at hl 2 rfl) ?_
            refine va_get (D := D) (ci := 6) (v := .ref (A 1)) (C := RX6) (T := TX6) (N := 17) hx hb hts qX6_strength_inX6 hown hK hP 0 rfl rfl 0 (by decide) (hts _ qX6_strength_Cond_fieldLink_RX6_7_NestedCodesModel_d_I_) (fun _ h9 => h9) rfl dX6_strength_43 ?_
            refine lv_bipush (v := (nI 9)) hx hb dX6_strength_46 (by decide) ?_
            refine lv_iload_n hx hb dX6_strength_48 rfl (lv_at hl 3 rfl) ?_
            refine zv_iadd hx hb (v := (nI (9 + j))) dX6_strength_49 (nI_add _ _) ?_
            refine za_i hx hb hK hP 1 (f := fun k9 => nI (σ k9)) (v := (nI (σ (9 + j)))) rfl (by omega) (by decide) dX6_strength_50 (rfl) ?_
            refine zv_ixor hx hb (v := (nI (i ^^^ (σ (9 + j))))) dX6_strength_51 (nx_xor _ _) ?_
            refine zc_r (va_runS (As := [.int (nI (i ^^^ (σ (9 + j))))]) (rest := []) ⟨hx, hb, hml, hown, hts⟩ (c_X6_ones l D Y  (i ^^^ (σ (9 + j))) (Nat.lt_trans (xor_1024 (by omega) (zw_1024 kσ (by omega))) (by decide))) (va_cwS 1 hts gX6_strength_X6_ones rfl rfl rfl (by decide +kernel) (by rw [hR]; exact ⟨Nat.le_of_ble_eq_true rfl, Nat.le_of_ble_eq_true rfl⟩)) ⟨zB_blind, (zp_r (v := [.int (nI (i ^^^ (σ (9 + j))))]) (fun k q h => absurd h (by simp)) hK hN)⟩ rfl rfl hl.1 rfl (lv_room (Nat.le_of_ble_eq_true rfl)) dX6_strength_52 ⟨Nat.zero_le _, Nat.zero_le _⟩).run ?_
            have hp52 := popc_le (i ^^^ (σ (9 + j)))
            refine lv_istore (lv' := [(4, .int (nI (popc (i ^^^ (σ (9 + j)))))), (3, .int (nI i)), (2, .int (nI (snI σ (σ (9 + j)) i))), (0, .ref (A 0)), (1, .int (nI j))]) hx hb dX6_strength_55 hl (by decide) rfl (fun ls hl => ?_)
            refine lv_aload_n hx hb dX6_strength_57 rfl (lv_at hl 3 rfl) ?_
            refine va_get (D := D) (ci := 6) (v := .ref (A 7)) (C := RX6) (T := TX6) (N := 17) hx hb hts qX6_strength_inX6 hown hK hP 0 rfl rfl 8 (by decide) (hts _ qX6_strength_Cond_fieldLink_RX6_30_NestedCodesModel_symbol_I_) (fun _ h9 => h9) rfl dX6_strength_58 ?_
            refine lv_iload_n hx hb dX6_strength_61 rfl (lv_at hl 1 rfl) ?_
            refine za_i hx hb hK hP 7 (f := fun k9 => nI (sy k9)) (v := (nI (syS σ i))) rfl (by omega) (by decide) dX6_strength_62 (congrArg nI (ksy i (by omega))) ?_
            refine lv_aload_n hx hb dX6_strength_63 rfl (lv_at hl 3 rfl) ?_
            refine va_get (D := D) (ci := 6) (v := .ref (A 7)) (C := RX6) (T := TX6) (N := 17) hx hb hts qX6_strength_inX6 hown hK hP 0 rfl rfl 8 (by decide) (hts _ qX6_strength_Cond_fieldLink_RX6_30_NestedCodesModel_symbol_I_) (fun _ h9 => h9) rfl dX6_strength_64 ?_
            refine lv_aload_n hx hb dX6_strength_67 rfl (lv_at hl 3 rfl) ?_
            refine va_get (D := D) (ci := 6) (v := .ref (A 1)) (C := RX6) (T := TX6) (N := 17) hx hb hts qX6_strength_inX6 hown hK hP 0 rfl rfl 0 (by decide) (hts _ qX6_strength_Cond_fieldLink_RX6_7_NestedCodesModel_d_I_) (fun _ h9 => h9) rfl dX6_strength_68 ?_
            refine lv_bipush (v := (nI 9)) hx hb dX6_strength_71 (by decide) ?_
            refine lv_iload_n hx hb dX6_strength_73 rfl (lv_at hl 4 rfl) ?_
            refine zv_iadd hx hb (v := (nI (9 + j))) dX6_strength_74 (nI_add _ _) ?_
            refine za_i hx hb hK hP 1 (f := fun k9 => nI (σ k9)) (v := (nI (σ (9 + j)))) rfl (by omega) (by decide) dX6_strength_75 (rfl) ?_
            refine za_i hx hb hK hP 7 (f := fun k9 => nI (sy k9)) (v := (nI (syS σ (σ (9 + j))))) rfl (Nat.lt_of_lt_of_le (wl j (by omega)) pb) (by decide) dX6_strength_76 (congrArg nI (ksy _ (wl j (by omega)))) ?_
            have J92 : W p l e R s m args below meth c s.heap [] 0 0 Q (F0 m 92 ls [.int (nI (snI σ (σ (9 + j)) (i + 1)))]) := by
              refine lv_istore_n (lv' := [(2, .int (nI (snI σ (σ (9 + j)) (i + 1)))), (4, .int (nI (popc (i ^^^ (σ (9 + j)))))), (3, .int (nI i)), (0, .ref (A 0)), (1, .int (nI j))]) hx hb dX6_strength_92 rfl hl (by decide) rfl (fun ls hl => ?_)
              refine lv_iinc (v := (nI (i + 1))) (lv' := [(3, .int (nI (i + 1))), (2, .int (nI (snI σ (σ (9 + j)) (i + 1)))), (4, .int (nI (popc (i ^^^ (σ (9 + j)))))), (0, .ref (A 0)), (1, .int (nI j))]) hx hb dX6_strength_93 hl (k := 2) rfl (zinc _) (by decide) rfl (fun ls hl => ?_)
              refine lv_goto (tgt := 29) hx hb dX6_strength_96 (by decide) ?_
              exact ih29 (i + 1) (by omega) (by omega) ls (lv_sub hl [0, 1, 3, 4] rfl)
            refine zn_icmp_eq (tgt := 91)  hx hb dX6_strength_77 (by decide) (by omega) (by omega) (fun c77 => ?_) (fun c77 => ?_)
            · refine lv_iload_n hx hb dX6_strength_91 rfl (lv_at hl 2 rfl) ?_
              refine zt_i (v := (nI (snI σ (σ (9 + j)) (i + 1)))) (by first | exact congrArg nI (if_pos ⟨c77, by omega⟩).symm | exact congrArg nI (if_neg (fun z => z.1 (show syS σ i = syS σ (σ (9 + j)) by omega))).symm | exact congrArg nI (if_neg (fun z => by have z2 := z.2; omega)).symm) ?_
              exact J92
            · refine lv_iload hx hb dX6_strength_80 (lv_at hl 0 rfl) ?_
              refine lv_iload_n hx hb dX6_strength_82 rfl (lv_at hl 2 rfl) ?_
              refine zn_icmp_ge (tgt := 91)  hx hb dX6_strength_83 (by decide) (by omega) (by omega) (fun c83 => ?_) (fun c83 => ?_)
              · refine lv_iload_n hx hb dX6_strength_91 rfl (lv_at hl 2 rfl) ?_
                refine zt_i (v := (nI (snI σ (σ (9 + j)) (i + 1)))) (by first | exact congrArg nI (if_pos ⟨c77, by omega⟩).symm | exact congrArg nI (if_neg (fun z => z.1 (show syS σ i = syS σ (σ (9 + j)) by omega))).symm | exact congrArg nI (if_neg (fun z => by have z2 := z.2; omega)).symm) ?_
                exact J92
              · refine lv_iload hx hb dX6_strength_86 (lv_at hl 0 rfl) ?_
                refine lv_goto (tgt := 92) hx hb dX6_strength_88 (by decide) ?_
                refine zt_i (v := (nI (snI σ (σ (9 + j)) (i + 1)))) (by first | exact congrArg nI (if_pos ⟨c77, by omega⟩).symm | exact congrArg nI (if_neg (fun z => z.1 (show syS σ i = syS σ (σ (9 + j)) by omega))).symm | exact congrArg nI (if_neg (fun z => by have z2 := z.2; omega)).symm) ?_
                exact J92
      exact L29 (2 ^ (σ 2) - 0 + 1) 0 (by omega) (Nat.lt_succ_self _) ls (lv_sub hl [0, 1, 2, 3] rfl)
    · exact absurd c17 (by omega)
  · exact absurd ⟨by rw [zt_n (by omega)]; omega, by rw [zt_n (by omega)]; omega⟩ c5
theorem qX6_fragileBits_Cond_fieldLink_RX6_7_NestedCodesModel_d_I_ : Cond.fieldLink RX6 7 "NestedCodesModel" "d" "[I" ∈ wsX6_fragileBits := by decide +kernel
theorem qX6_fragileBits_inX6 : ∀ w ∈ wsX60, w ∈ wsX6_fragileBits := by decide +kernel
set_option maxHeartbeats 4000000 in
set_option maxRecDepth 100000 in
theorem c_X6_fragileBits (l : Launch) (D : va_G) (Y : Nat → ClassId) (A : Nat → Nat) (σ : Nat → Nat) (hf : Nat → Nat) (hn : Nat) (wt : Nat → Nat) (wn : Nat) (sy : Nat → Nat) (gp : Nat → Nat) (i0 : Nat → Nat) (i1 : Nat → Nat) (i2 : Nat → Nat) (i3 : Nat → Nat) (fo : Int32) (de : Int32)   (kσ : zWF σ) (ksy : ∀ w9, w9 < 2 ^ (σ 2) → sy w9 = syS σ w9) (kgp : ∀ w9, w9 < 2 ^ (σ 2) → gp w9 = gpS σ w9) : Met l yX6_fragileBits wsX6_fragileBits ({ frames := 5, cells := 0, slots := 0, locals := 108 } : Room) (va_Pc [.ref (A 0)] (zBw D Y (MX Y A σ hf hn wt wn tmS cdS (wdS σ) sy gp (ddS σ) i0 i1 i2 i3 fo de))) (zW (some (.int (nI (frbI σ (σ 0))))) D (MX Y A σ hf hn wt wn tmS cdS (wdS σ) sy gp (ddS σ) ((jbJ σ (i0, i1, i2, i3, fo, de) (σ 0)).1) ((jbJ σ (i0, i1, i2, i3, fo, de) (σ 0)).2.1) ((jbJ σ (i0, i1, i2, i3, fo, de) (σ 0)).2.2.1) ((jbJ σ (i0, i1, i2, i3, fo, de) (σ 0)).2.2.2.1) ((jbJ σ (i0, i1, i2, i3, fo, de) (σ 0)).2.2.2.2.1) ((jbJ σ (i0, i1, i2, i3, fo, de) (σ 0)).2.2.2.2.2)) (zA (MX Y A σ hf hn wt wn tmS cdS (wdS σ) sy gp (ddS σ) i0 i1 i2 i3 fo de))) 0 0 (zA (MX Y A σ hf hn wt wn tmS cdS (wdS σ) sy gp (ddS σ) i0 i1 i2 i3 fo de)) := by
  refine zw_of (cc := cX6_fragileBits) (maxL := 4) (ret := (some .int)) (by decide) rfl (Nat.le_of_ble_eq_true rfl) ?_
  intro p e s m below meth c R args Q FA hR hx hb hml hr hlk hown hts hK hN hQ hP hD hS ls hl
  have hown : s.vm.findClass RX6 = some m.cls := hown
  have hl : lv_has ls 4 [(0, .ref (A 0))] := hl
  have hS := hS
  have kw := kσ
  obtain ⟨n3, n12, d1, d3, dn, b4, b10, gl, lm, sn, wl, wnz⟩ := kw
  have pb := zp_b b10
  have pk9 := zp_k d3
  suffices hgo : ∀ (H : Heap) (locs : List Loc), va_P D vwCl (MX Y A σ hf hn wt wn tmS cdS (wdS σ) sy gp (ddS σ) i0 i1 i2 i3 fo de) H → va_S FA s.heap H locs → W p l e R s m args below meth c H locs 0 0 Q (F0 m 0 ls []) from hgo _ _ hP hS
  clear hP hS
  intro H locs hP hS
  refine lv_iconst (v := (nI 0)) hx hb dX6_fragileBits_0 (by decide) ?_
  refine lv_istore_n (lv' := [(1, .int (nI 0)), (0, .ref (A 0))]) hx hb dX6_fragileBits_1 rfl hl (by decide) rfl (fun ls hl => ?_)
  refine lv_iconst (v := (nI 0)) hx hb dX6_fragileBits_2 (by decide) ?_
  refine lv_istore_n (lv' := [(2, .int (nI 0)), (1, .int (nI 0)), (0, .ref (A 0))]) hx hb dX6_fragileBits_3 rfl hl (by decide) rfl (fun ls hl => ?_)
  have L4 : ∀ (n9 : Nat) (j : Nat) (hj : j ≤ σ 0), σ 0 - j < n9 → ∀ (H : Heap) (locs : List Loc), va_P D vwCl (MX Y A σ hf hn wt wn tmS cdS (wdS σ) sy gp (ddS σ) ((jbJ σ (i0, i1, i2, i3, fo, de) j).1) ((jbJ σ (i0, i1, i2, i3, fo, de) j).2.1) ((jbJ σ (i0, i1, i2, i3, fo, de) j).2.2.1) ((jbJ σ (i0, i1, i2, i3, fo, de) j).2.2.2.1) ((jbJ σ (i0, i1, i2, i3, fo, de) j).2.2.2.2.1) ((jbJ σ (i0, i1, i2, i3, fo, de) j).2.2.2.2.2)) H → va_D FA (MX Y A σ hf hn wt wn tmS cdS (wdS σ) sy gp (ddS σ) ((jbJ σ (i0, i1, i2, i3, fo, de) j).1) ((jbJ σ (i0, i1, i2, i3, fo, de) j).2.1) ((jbJ σ (i0, i1, i2, i3, fo, de) j).2.2.1) ((jbJ σ (i0, i1, i2, i3, fo, de) j).2.2.2.1) ((jbJ σ (i0, i1, i2, i3, fo, de) j).2.2.2.2.1) ((jbJ σ (i0, i1, i2, i3, fo, de) j).2.2.2.2.2)) → va_S FA s.heap H locs → ∀ ls : Array Slot, lv_has ls 4 [(2, .int (nI j)), (1, .int (nI (frbI σ j))), (0, .ref (A 0))] → W p l e R s m args below meth c H locs 0 0 Q (F0 m 4 ls []) := by
    intro n9
    induction n9 with
    | zero => intro j hj hn9; exact absurd hn9 (Nat.not_lt_zero _)
    | succ n9 ih9 =>
      have ih4 := ih9
      clear ih9
      intro j hj hn9 H locs hP hD hS ls hl
      refine lv_iload_n hx hb dX6_fragileBits_4 rfl (lv_at hl 0 rfl) ?_
      refine lv_aload_n hx hb dX6_fragileBits_5 rfl (lv_at hl 2 rfl) ?_
      refine va_get (D := D) (ci := 6) (v := .ref (A 1)) (C := RX6) (T := TX6) (N := 17) hx hb hts qX6_fragileBits_inX6 hown hK hP 0 rfl rfl 0 (by decide) (hts _ qX6_fragileBits_Cond_fieldLink_RX6_7_NestedCodesModel_d_I_) (fun _ h9 => h9) rfl dX6_fragileBits_6 ?_
      refine lv_iconst (v := (nI 0)) hx hb dX6_fragileBits_9 (by decide) ?_
      refine za_i hx hb hK hP 1 (f := fun k9 => nI (σ k9)) (v := (nI (σ 0))) rfl (by omega) (by decide) dX6_fragileBits_10 (rfl) ?_
      refine zn_icmp_ge (tgt := 91)  hx hb dX6_fragileBits_11 (by decide) (by omega) (by omega) (fun c11 => ?_) (fun c11 => ?_)
      · obtain rfl : j = σ 0 := by omega
        refine lv_iload_n hx hb dX6_fragileBits_91 rfl (lv_at hl 1 rfl) ?_
        exact zw_i hx hb hr hlk hQ hS dX6_fragileBits_92 (rfl) (hP)
      · refine lv_iconst (v := (nI 0)) hx hb dX6_fragileBits_14 (by decide) ?_
        refine lv_istore_n (lv' := [(3, .int (nI 0)), (2, .int (nI j)), (1, .int (nI (frbI σ j))), (0, .ref (A 0))]) hx hb dX6_fragileBits_15 rfl hl (by decide) rfl (fun ls hl => ?_)
        have L16 : ∀ (n9 : Nat) (i : Nat) (hi : i ≤ σ 2) (hl0 : zL (σ 7) j = 1 → i = 0), σ 2 - i < n9 → ∀ (H : Heap) (locs : List Loc), va_P D vwCl (MX Y A σ hf hn wt wn tmS cdS (wdS σ) sy gp (ddS σ) ((jbI σ j (jbJ σ (i0, i1, i2, i3, fo, de) j) i).1) ((jbI σ j (jbJ σ (i0, i1, i2, i3, fo, de) j) i).2.1) ((jbI σ j (jbJ σ (i0, i1, i2, i3, fo, de) j) i).2.2.1) ((jbI σ j (jbJ σ (i0, i1, i2, i3, fo, de) j) i).2.2.2.1) ((jbI σ j (jbJ σ (i0, i1, i2, i3, fo, de) j) i).2.2.2.2.1) ((jbI σ j (jbJ σ (i0, i1, i2, i3, fo, de) j) i).2.2.2.2.2)) H → va_D FA (MX Y A σ hf hn wt wn tmS cdS (wdS σ) sy gp (ddS σ) ((jbI σ j (jbJ σ (i0, i1, i2, i3, fo, de) j) i).1) ((jbI σ j (jbJ σ (i0, i1, i2, i3, fo, de) j) i).2.1) ((jbI σ j (jbJ σ (i0, i1, i2, i3, fo, de) j) i).2.2.1) ((jbI σ j (jbJ σ (i0, i1, i2, i3, fo, de) j) i).2.2.2.1) ((jbI σ j (jbJ σ (i0, i1, i2, i3, fo, de) j) i).2.2.2.2.1) ((jbI σ j (jbJ σ (i0, i1, i2, i3, fo, de) j) i).2.2.2.2.2)) → va_S FA s.heap H locs → ∀ ls : Array Slot, lv_has ls 4 [(3, .int (nI i)), (2, .int (nI j)), (1, .int (nI (frbI σ j + (if zL (σ 7) j = 1 then 0 else cnt (frbP σ j) i)))), (0, .ref (A 0))] → W p l e R s m args below meth c H locs 0 0 Q (F0 m 16 ls []) := by
          intro n9
          induction n9 with
          | zero => intro i hi hl0 hn9; exact absurd hn9 (Nat.not_lt_zero _)
          | succ n9 ih9 =>
            have ih16 := ih9
            clear ih9
            intro i hi hl0 hn9 H locs hP hD hS ls hl
            have h2i : 2 ^ i ≤ 2 ^ 10 := Nat.pow_le_pow_right (by decide) (by omega)
            refine lv_iload_n hx hb dX6_fragileBits_16 rfl (lv_at hl 0 rfl) ?_
            refine lv_aload_n hx hb dX6_fragileBits_17 rfl (lv_at hl 3 rfl) ?_
            refine va_get (D := D) (ci := 6) (v := .ref (A 1)) (C := RX6) (T := TX6) (N := 17) hx hb hts qX6_fragileBits_inX6 hown hK hP 0 rfl rfl 0 (by decide) (hts _ qX6_fragileBits_Cond_fieldLink_RX6_7_NestedCodesModel_d_I_) (fun _ h9 => h9) rfl dX6_fragileBits_18 ?_
            refine lv_iconst (v := (nI 2)) hx hb dX6_fragileBits_21 (by decide) ?_
            refine za_i hx hb hK hP 1 (f := fun k9 => nI (σ k9)) (v := (nI (σ 2))) rfl (by omega) (by decide) dX6_fragileBits_22 (rfl) ?_
            refine zn_icmp_ge (tgt := 85)  hx hb dX6_fragileBits_23 (by decide) (by omega) (by omega) (fun c23 => ?_) (fun c23 => ?_)
            · obtain rfl : i = σ 2 := by omega
              have hz9 : ¬ zL (σ 7) j = 1 := fun z => absurd (hl0 z) (by omega)
              rw [jbJ_all hz9] at hP
              have hP : va_P D vwCl (MX Y A σ hf hn wt wn tmS cdS (wdS σ) sy gp (ddS σ) ((jbJ σ (i0, i1, i2, i3, fo, de) (j + 1)).1) ((jbJ σ (i0, i1, i2, i3, fo, de) (j + 1)).2.1) ((jbJ σ (i0, i1, i2, i3, fo, de) (j + 1)).2.2.1) ((jbJ σ (i0, i1, i2, i3, fo, de) (j + 1)).2.2.2.1) ((jbJ σ (i0, i1, i2, i3, fo, de) (j + 1)).2.2.2.2.1) ((jbJ σ (i0, i1, i2, i3, fo, de) (j + 1)).2.2.2.2.2)) H := hP
              have hD : va_D FA (MX Y A σ hf hn wt wn tmS cdS (wdS σ) sy gp (ddS σ) ((jbJ σ (i0, i1, i2, i3, fo, de) (j + 1)).1) ((jbJ σ (i0, i1, i2, i3, fo, de) (j + 1)).2.1) ((jbJ σ (i0, i1, i2, i3, fo, de) (j + 1)).2.2.1) ((jbJ σ (i0, i1, i2, i3, fo, de) (j + 1)).2.2.2.1) ((jbJ σ (i0, i1, i2, i3, fo, de) (j + 1)).2.2.2.2.1) ((jbJ σ (i0, i1, i2, i3, fo, de) (j + 1)).2.2.2.2.2)) := MX_dd hD
              refine lv_iinc (v := (nI (j + 1))) (lv' := [(2, .int (nI (j + 1))), (3, .int (nI ((σ 2)))), (1, .int (nI (frbI σ j + (if zL (σ 7) j = 1 then 0 else cnt (frbP σ j) (σ 2))))), (0, .ref (A 0))]) hx hb dX6_fragileBits_85 hl (k := 1) rfl (zinc _) (by decide) rfl (fun ls hl => ?_)
              refine lv_goto (tgt := 4) hx hb dX6_fragileBits_88 (by decide) ?_
              rw [show (.int (nI (frbI σ j + (if zL (σ 7) j = 1 then 0 else cnt (frbP σ j) (σ 2)))) : Value) = .int (nI (frbI σ (j + 1))) from congrArg _ (congrArg nI (show frbI σ j + (if zL (σ 7) j = 1 then 0 else cnt (frbP σ j) (σ 2)) = frbI σ j + (if zL (σ 7) j = 1 then 0 else cnt (frbP σ j) (σ 2)) from rfl))] at hl
              have hP : va_P D vwCl (MX Y A σ hf hn wt wn tmS cdS (wdS σ) sy gp (ddS σ) ((jbJ σ (i0, i1, i2, i3, fo, de) (j + 1)).1) ((jbJ σ (i0, i1, i2, i3, fo, de) (j + 1)).2.1) ((jbJ σ (i0, i1, i2, i3, fo, de) (j + 1)).2.2.1) ((jbJ σ (i0, i1, i2, i3, fo, de) (j + 1)).2.2.2.1) ((jbJ σ (i0, i1, i2, i3, fo, de) (j + 1)).2.2.2.2.1) ((jbJ σ (i0, i1, i2, i3, fo, de) (j + 1)).2.2.2.2.2)) H := hP
              have hD : va_D FA (MX Y A σ hf hn wt wn tmS cdS (wdS σ) sy gp (ddS σ) ((jbJ σ (i0, i1, i2, i3, fo, de) (j + 1)).1) ((jbJ σ (i0, i1, i2, i3, fo, de) (j + 1)).2.1) ((jbJ σ (i0, i1, i2, i3, fo, de) (j + 1)).2.2.1) ((jbJ σ (i0, i1, i2, i3, fo, de) (j + 1)).2.2.2.1) ((jbJ σ (i0, i1, i2, i3, fo, de) (j + 1)).2.2.2.2.1) ((jbJ σ (i0, i1, i2, i3, fo, de) (j + 1)).2.2.2.2.2)) := MX_dd hD
              exact ih4 (j + 1) (by omega) (by omega) H locs hP hD hS ls (lv_sub hl [0, 2, 3] rfl)
            · refine lv_aload_n hx hb dX6_fragileBits_26 rfl (lv_at hl 3 rfl) ?_
              refine lv_iload_n hx hb dX6_fragileBits_27 rfl (lv_at hl 1 rfl) ?_
              refine zc_r (va_runV (As := [.int (nI j)]) (rest := []) ⟨hx, hb, hml, hown, hts⟩ (c_X6_isLost l D Y A σ hf hn wt wn tmS cdS (wdS σ) sy gp (ddS σ) ((jbI σ j (jbJ σ (i0, i1, i2, i3, fo, de) j) i).1) ((jbI σ j (jbJ σ (i0, i1, i2, i3, fo, de) j) i).2.1) ((jbI σ j (jbJ σ (i0, i1, i2, i3, fo, de) j) i).2.2.1) ((jbI σ j (jbJ σ (i0, i1, i2, i3, fo, de) j) i).2.2.2.1) ((jbI σ j (jbJ σ (i0, i1, i2, i3, fo, de) j) i).2.2.2.2.1) ((jbI σ j (jbJ σ (i0, i1, i2, i3, fo, de) j) i).2.2.2.2.2) j lm (by omega)) (cwV 1 hts gX6_fragileBits_X6_isLost rfl rfl rfl (by decide +kernel) (by rw [hR]; exact ⟨Nat.le_of_ble_eq_true rfl, Nat.le_of_ble_eq_true rfl⟩)) ⟨zB_blind, va_recv hK hP (ci := 6) (q0 := 0) rfl rfl, zp_r hP hK hN⟩ rfl rfl hl.1 rfl (lv_room (Nat.le_of_ble_eq_true rfl)) dX6_fragileBits_28 ⟨Nat.zero_le _, Nat.zero_le _⟩).run ?_
              refine zb_if_ne (tgt := 85)  hx hb dX6_fragileBits_31 (by decide)  (fun c31 => ?_) (fun c31 => ?_)
              · rw [jbJ_los c31 (hl0 c31)] at hP
                have hP : va_P D vwCl (MX Y A σ hf hn wt wn tmS cdS (wdS σ) sy gp (ddS σ) ((jbJ σ (i0, i1, i2, i3, fo, de) (j + 1)).1) ((jbJ σ (i0, i1, i2, i3, fo, de) (j + 1)).2.1) ((jbJ σ (i0, i1, i2, i3, fo, de) (j + 1)).2.2.1) ((jbJ σ (i0, i1, i2, i3, fo, de) (j + 1)).2.2.2.1) ((jbJ σ (i0, i1, i2, i3, fo, de) (j + 1)).2.2.2.2.1) ((jbJ σ (i0, i1, i2, i3, fo, de) (j + 1)).2.2.2.2.2)) H := hP
                have hD : va_D FA (MX Y A σ hf hn wt wn tmS cdS (wdS σ) sy gp (ddS σ) ((jbJ σ (i0, i1, i2, i3, fo, de) (j + 1)).1) ((jbJ σ (i0, i1, i2, i3, fo, de) (j + 1)).2.1) ((jbJ σ (i0, i1, i2, i3, fo, de) (j + 1)).2.2.1) ((jbJ σ (i0, i1, i2, i3, fo, de) (j + 1)).2.2.2.1) ((jbJ σ (i0, i1, i2, i3, fo, de) (j + 1)).2.2.2.2.1) ((jbJ σ (i0, i1, i2, i3, fo, de) (j + 1)).2.2.2.2.2)) := MX_dd hD
                refine lv_iinc (v := (nI (j + 1))) (lv' := [(2, .int (nI (j + 1))), (3, .int (nI i)), (1, .int (nI (frbI σ j + (if zL (σ 7) j = 1 then 0 else cnt (frbP σ j) i)))), (0, .ref (A 0))]) hx hb dX6_fragileBits_85 hl (k := 1) rfl (zinc _) (by decide) rfl (fun ls hl => ?_)
                refine lv_goto (tgt := 4) hx hb dX6_fragileBits_88 (by decide) ?_
                rw [show (.int (nI (frbI σ j + (if zL (σ 7) j = 1 then 0 else cnt (frbP σ j) i))) : Value) = .int (nI (frbI σ (j + 1))) from congrArg _ (congrArg nI (show frbI σ j + (if zL (σ 7) j = 1 then 0 else cnt (frbP σ j) i) = frbI σ j + (if zL (σ 7) j = 1 then 0 else cnt (frbP σ j) (σ 2)) from by rw [if_pos c31, if_pos c31]))] at hl
                have hP : va_P D vwCl (MX Y A σ hf hn wt wn tmS cdS (wdS σ) sy gp (ddS σ) ((jbJ σ (i0, i1, i2, i3, fo, de) (j + 1)).1) ((jbJ σ (i0, i1, i2, i3, fo, de) (j + 1)).2.1) ((jbJ σ (i0, i1, i2, i3, fo, de) (j + 1)).2.2.1) ((jbJ σ (i0, i1, i2, i3, fo, de) (j + 1)).2.2.2.1) ((jbJ σ (i0, i1, i2, i3, fo, de) (j + 1)).2.2.2.2.1) ((jbJ σ (i0, i1, i2, i3, fo, de) (j + 1)).2.2.2.2.2)) H := hP
                have hD : va_D FA (MX Y A σ hf hn wt wn tmS cdS (wdS σ) sy gp (ddS σ) ((jbJ σ (i0, i1, i2, i3, fo, de) (j + 1)).1) ((jbJ σ (i0, i1, i2, i3, fo, de) (j + 1)).2.1) ((jbJ σ (i0, i1, i2, i3, fo, de) (j + 1)).2.2.1) ((jbJ σ (i0, i1, i2, i3, fo, de) (j + 1)).2.2.2.1) ((jbJ σ (i0, i1, i2, i3, fo, de) (j + 1)).2.2.2.2.1) ((jbJ σ (i0, i1, i2, i3, fo, de) (j + 1)).2.2.2.2.2)) := MX_dd hD
                exact ih4 (j + 1) (by omega) (by omega) H locs hP hD hS ls (lv_sub hl [0, 2, 3] rfl)
              · have h2b : 2 ^ i < 2 ^ σ 2 := Nat.pow_lt_pow_right (by decide) (by omega)
                refine lv_aload_n hx hb dX6_fragileBits_34 rfl (lv_at hl 3 rfl) ?_
                refine va_get (D := D) (ci := 6) (v := .ref (A 1)) (C := RX6) (T := TX6) (N := 17) hx hb hts qX6_fragileBits_inX6 hown hK hP 0 rfl rfl 0 (by decide) (hts _ qX6_fragileBits_Cond_fieldLink_RX6_7_NestedCodesModel_d_I_) (fun _ h9 => h9) rfl dX6_fragileBits_35 ?_
                refine lv_bipush (v := (nI 9)) hx hb dX6_fragileBits_38 (by decide) ?_
                refine lv_iload_n hx hb dX6_fragileBits_40 rfl (lv_at hl 1 rfl) ?_
                refine zv_iadd hx hb (v := (nI (9 + j))) dX6_fragileBits_41 (nI_add _ _) ?_
                refine lv_dup2_11 hx hb dX6_fragileBits_42 rfl rfl ?_
                refine za_i hx hb hK hP 1 (f := fun k9 => nI (σ k9)) (v := (nI (σ (9 + j)))) rfl (by omega) (by decide) dX6_fragileBits_43 (rfl) ?_
                refine lv_iconst (v := (nI 1)) hx hb dX6_fragileBits_44 (by decide) ?_
                refine lv_iload_n hx hb dX6_fragileBits_45 rfl (lv_at hl 0 rfl) ?_
                refine zv_ishl hx hb (v := (nI (2 ^ i))) dX6_fragileBits_46 (by rw [zShl (by omega) (by omega), Nat.one_mul]) ?_
                refine zv_ixor hx hb (v := (nI ((σ (9 + j)) ^^^ (2 ^ i)))) dX6_fragileBits_47 (nx_xor _ _) ?_
                refine zs_i hx hb hK hP hD hS 1 (f := fun k9 => nI (σ k9)) rfl (by omega) (by decide) dX6_fragileBits_48 (fun H locs hP hD9 hS => ?_)
                rw [zupd] at hP
                rw [MX_s1] at hP
                have hP : va_P D vwCl (MX Y A (va_up σ (9 + j) ((σ (9 + j)) ^^^ (2 ^ i))) hf hn wt wn tmS cdS (wdS σ) sy gp (ddS σ) ((jbI σ j (jbJ σ (i0, i1, i2, i3, fo, de) j) i).1) ((jbI σ j (jbJ σ (i0, i1, i2, i3, fo, de) j) i).2.1) ((jbI σ j (jbJ σ (i0, i1, i2, i3, fo, de) j) i).2.2.1) ((jbI σ j (jbJ σ (i0, i1, i2, i3, fo, de) j) i).2.2.2.1) ((jbI σ j (jbJ σ (i0, i1, i2, i3, fo, de) j) i).2.2.2.2.1) ((jbI σ j (jbJ σ (i0, i1, i2, i3, fo, de) j) i).2.2.2.2.2)) H := hP
                have hD : va_D FA (MX Y A (va_up σ (9 + j) ((σ (9 + j)) ^^^ (2 ^ i))) hf hn wt wn tmS cdS (wdS σ) sy gp (ddS σ) ((jbI σ j (jbJ σ (i0, i1, i2, i3, fo, de) j) i).1) ((jbI σ j (jbJ σ (i0, i1, i2, i3, fo, de) j) i).2.1) ((jbI σ j (jbJ σ (i0, i1, i2, i3, fo, de) j) i).2.2.1) ((jbI σ j (jbJ σ (i0, i1, i2, i3, fo, de) j) i).2.2.2.1) ((jbI σ j (jbJ σ (i0, i1, i2, i3, fo, de) j) i).2.2.2.2.1) ((jbI σ j (jbJ σ (i0, i1, i2, i3, fo, de) j) i).2.2.2.2.2)) := MX_dd hD
                clear hD9
                have hP : va_P D vwCl (MX Y A (flpS σ j (2 ^ i)) hf hn wt wn tmS cdS (wdS (flpS σ j (2 ^ i))) sy gp (ddS (flpS σ j (2 ^ i))) ((jbI σ j (jbJ σ (i0, i1, i2, i3, fo, de) j) i).1) ((jbI σ j (jbJ σ (i0, i1, i2, i3, fo, de) j) i).2.1) ((jbI σ j (jbJ σ (i0, i1, i2, i3, fo, de) j) i).2.2.1) ((jbI σ j (jbJ σ (i0, i1, i2, i3, fo, de) j) i).2.2.2.1) ((jbI σ j (jbJ σ (i0, i1, i2, i3, fo, de) j) i).2.2.2.2.1) ((jbI σ j (jbJ σ (i0, i1, i2, i3, fo, de) j) i).2.2.2.2.2)) H := by rw [wd_same (flp_g σ j (2 ^ i)), dd_same (flp_g σ j (2 ^ i))]; exact hP
                have hP : va_P D vwCl (MX Y A (flpS σ j (2 ^ i)) hf hn wt wn tmS cdS (wdS (flpS σ j (2 ^ i))) sy gp (ddS (flpS σ j (2 ^ i))) ((jbI σ j (jbJ σ (i0, i1, i2, i3, fo, de) j) i).1) ((jbI σ j (jbJ σ (i0, i1, i2, i3, fo, de) j) i).2.1) ((jbI σ j (jbJ σ (i0, i1, i2, i3, fo, de) j) i).2.2.1) ((jbI σ j (jbJ σ (i0, i1, i2, i3, fo, de) j) i).2.2.2.1) ((jbI σ j (jbJ σ (i0, i1, i2, i3, fo, de) j) i).2.2.2.2.1) ((jbI σ j (jbJ σ (i0, i1, i2, i3, fo, de) j) i).2.2.2.2.2)) H := hP
                have hD : va_D FA (MX Y A (flpS σ j (2 ^ i)) hf hn wt wn tmS cdS (wdS (flpS σ j (2 ^ i))) sy gp (ddS (flpS σ j (2 ^ i))) ((jbI σ j (jbJ σ (i0, i1, i2, i3, fo, de) j) i).1) ((jbI σ j (jbJ σ (i0, i1, i2, i3, fo, de) j) i).2.1) ((jbI σ j (jbJ σ (i0, i1, i2, i3, fo, de) j) i).2.2.1) ((jbI σ j (jbJ σ (i0, i1, i2, i3, fo, de) j) i).2.2.2.1) ((jbI σ j (jbJ σ (i0, i1, i2, i3, fo, de) j) i).2.2.2.2.1) ((jbI σ j (jbJ σ (i0, i1, i2, i3, fo, de) j) i).2.2.2.2.2)) := MX_dd hD
                refine lv_iload_n hx hb dX6_fragileBits_49 rfl (lv_at hl 2 rfl) ?_
                refine lv_aload_n hx hb dX6_fragileBits_50 rfl (lv_at hl 3 rfl) ?_
                refine zc_w (va_runV (As := []) (rest := [.int (nI (frbI σ j + (if zL (σ 7) j = 1 then 0 else cnt (frbP σ j) i)))]) ⟨hx, hb, hml, hown, hts⟩ (c_X6_isRight l D Y A (flpS σ j (2 ^ i)) hf hn wt wn sy gp ((jbI σ j (jbJ σ (i0, i1, i2, i3, fo, de) j) i).1) ((jbI σ j (jbJ σ (i0, i1, i2, i3, fo, de) j) i).2.1) ((jbI σ j (jbJ σ (i0, i1, i2, i3, fo, de) j) i).2.2.1) ((jbI σ j (jbJ σ (i0, i1, i2, i3, fo, de) j) i).2.2.2.1) ((jbI σ j (jbJ σ (i0, i1, i2, i3, fo, de) j) i).2.2.2.2.1) ((jbI σ j (jbJ σ (i0, i1, i2, i3, fo, de) j) i).2.2.2.2.2)  (zWF_flp kσ (by omega) h2b) (sy_keep (flp_g σ j (2 ^ i)) (flp_lo _ _ _ (by decide)) ksy) (gp_keep (flp_g σ j (2 ^ i)) (flp_lo _ _ _ (by decide)) kgp)) (cwV 0 hts gX6_fragileBits_X6_isRight rfl rfl rfl (by decide +kernel) (by rw [hR]; exact ⟨Nat.le_of_ble_eq_true rfl, Nat.le_of_ble_eq_true rfl⟩)) ⟨zBw_blind, va_recv hK hP (ci := 6) (q0 := 0) rfl rfl, zp_w hP hD hK hN⟩ rfl rfl hl.1 rfl (lv_room (Nat.le_of_ble_eq_true rfl)) dX6_fragileBits_51 ⟨Nat.zero_le _, Nat.zero_le _⟩).run hS (zA_of hD) (fun H locs hP hz hk hS => ?_)
                have hD : va_D FA (MX Y A (flpS σ j (2 ^ i)) hf hn wt wn tmS cdS (wdS (flpS σ j (2 ^ i))) sy gp (ddS (flpS σ j (2 ^ i))) (ag0 (flpS σ j (2 ^ i)) ((jbI σ j (jbJ σ (i0, i1, i2, i3, fo, de) j) i).1)) (ag1 (flpS σ j (2 ^ i)) ((jbI σ j (jbJ σ (i0, i1, i2, i3, fo, de) j) i).2.1)) (ag2 (flpS σ j (2 ^ i)) ((jbI σ j (jbJ σ (i0, i1, i2, i3, fo, de) j) i).2.2.1)) (insI (trS (flpS σ j (2 ^ i))) ((jbI σ j (jbJ σ (i0, i1, i2, i3, fo, de) j) i).2.2.2.1) ((flpS σ j (2 ^ i)) 0)) (decodeV (flpS σ j (2 ^ i))) (decTV (flpS σ j (2 ^ i)))) := MX_dd hD
                have J62 : W p l e R s m args below meth c H locs 0 0 Q (F0 m 62 ls [.int (nI (b01 (frbP σ j i))), .int (nI (frbI σ j + (if zL (σ 7) j = 1 then 0 else cnt (frbP σ j) i)))]) := by
                  refine zv_iadd hx hb (v := (nI ((frbI σ j + (if zL (σ 7) j = 1 then 0 else cnt (frbP σ j) i)) + (b01 (frbP σ j i))))) dX6_fragileBits_62 (nI_add _ _) ?_
                  refine lv_istore_n (lv' := [(1, .int (nI ((frbI σ j + (if zL (σ 7) j = 1 then 0 else cnt (frbP σ j) i)) + (b01 (frbP σ j i))))), (3, .int (nI i)), (2, .int (nI j)), (0, .ref (A 0))]) hx hb dX6_fragileBits_63 rfl hl (by decide) rfl (fun ls hl => ?_)
                  refine lv_aload_n hx hb dX6_fragileBits_64 rfl (lv_at hl 3 rfl) ?_
                  refine va_get (D := D) (ci := 6) (v := .ref (A 1)) (C := RX6) (T := TX6) (N := 17) hx hb hts qX6_fragileBits_inX6 hown hK hP 0 rfl rfl 0 (by decide) (hts _ qX6_fragileBits_Cond_fieldLink_RX6_7_NestedCodesModel_d_I_) (fun _ h9 => h9) rfl dX6_fragileBits_65 ?_
                  refine lv_bipush (v := (nI 9)) hx hb dX6_fragileBits_68 (by decide) ?_
                  refine lv_iload_n hx hb dX6_fragileBits_70 rfl (lv_at hl 2 rfl) ?_
                  refine zv_iadd hx hb (v := (nI (9 + j))) dX6_fragileBits_71 (nI_add _ _) ?_
                  refine lv_dup2_11 hx hb dX6_fragileBits_72 rfl rfl ?_
                  refine za_i hx hb hK hP 1 (f := fun k9 => nI ((flpS σ j (2 ^ i)) k9)) (v := (nI ((flpS σ j (2 ^ i)) (9 + j)))) rfl (by omega) (by decide) dX6_fragileBits_73 (rfl) ?_
                  refine lv_iconst (v := (nI 1)) hx hb dX6_fragileBits_74 (by decide) ?_
                  refine lv_iload_n hx hb dX6_fragileBits_75 rfl (lv_at hl 1 rfl) ?_
                  refine zv_ishl hx hb (v := (nI (2 ^ i))) dX6_fragileBits_76 (by rw [zShl (by omega) (by omega), Nat.one_mul]) ?_
                  refine zv_ixor hx hb (v := (nI (((flpS σ j (2 ^ i)) (9 + j)) ^^^ (2 ^ i)))) dX6_fragileBits_77 (nx_xor _ _) ?_
                  refine zs_i hx hb hK hP hD hS 1 (f := fun k9 => nI ((flpS σ j (2 ^ i)) k9)) rfl (by omega) (by decide) dX6_fragileBits_78 (fun H locs hP hD9 hS => ?_)
                  rw [zupd] at hP
                  rw [MX_s1] at hP
                  have hP : va_P D vwCl (MX Y A (va_up (flpS σ j (2 ^ i)) (9 + j) (((flpS σ j (2 ^ i)) (9 + j)) ^^^ (2 ^ i))) hf hn wt wn tmS cdS (wdS (flpS σ j (2 ^ i))) sy gp (ddS (flpS σ j (2 ^ i))) (ag0 (flpS σ j (2 ^ i)) ((jbI σ j (jbJ σ (i0, i1, i2, i3, fo, de) j) i).1)) (ag1 (flpS σ j (2 ^ i)) ((jbI σ j (jbJ σ (i0, i1, i2, i3, fo, de) j) i).2.1)) (ag2 (flpS σ j (2 ^ i)) ((jbI σ j (jbJ σ (i0, i1, i2, i3, fo, de) j) i).2.2.1)) (insI (trS (flpS σ j (2 ^ i))) ((jbI σ j (jbJ σ (i0, i1, i2, i3, fo, de) j) i).2.2.2.1) ((flpS σ j (2 ^ i)) 0)) (decodeV (flpS σ j (2 ^ i))) (decTV (flpS σ j (2 ^ i)))) H := hP
                  have hD : va_D FA (MX Y A (va_up (flpS σ j (2 ^ i)) (9 + j) (((flpS σ j (2 ^ i)) (9 + j)) ^^^ (2 ^ i))) hf hn wt wn tmS cdS (wdS (flpS σ j (2 ^ i))) sy gp (ddS (flpS σ j (2 ^ i))) (ag0 (flpS σ j (2 ^ i)) ((jbI σ j (jbJ σ (i0, i1, i2, i3, fo, de) j) i).1)) (ag1 (flpS σ j (2 ^ i)) ((jbI σ j (jbJ σ (i0, i1, i2, i3, fo, de) j) i).2.1)) (ag2 (flpS σ j (2 ^ i)) ((jbI σ j (jbJ σ (i0, i1, i2, i3, fo, de) j) i).2.2.1)) (insI (trS (flpS σ j (2 ^ i))) ((jbI σ j (jbJ σ (i0, i1, i2, i3, fo, de) j) i).2.2.2.1) ((flpS σ j (2 ^ i)) 0)) (decodeV (flpS σ j (2 ^ i))) (decTV (flpS σ j (2 ^ i)))) := MX_dd hD
                  clear hD9
                  have e9 : va_up (flpS σ j (2 ^ i)) (9 + j) (((flpS σ j (2 ^ i)) (9 + j)) ^^^ (2 ^ i)) = σ := flp_flp σ j (2 ^ i)
                  rw [wd_same (flp_g σ j (2 ^ i)), dd_same (flp_g σ j (2 ^ i)), e9] at hP
                  clear e9
                  have hP : va_P D vwCl (MX Y A σ hf hn wt wn tmS cdS (wdS σ) sy gp (ddS σ) (ag0 (flpS σ j (2 ^ i)) ((jbI σ j (jbJ σ (i0, i1, i2, i3, fo, de) j) i).1)) (ag1 (flpS σ j (2 ^ i)) ((jbI σ j (jbJ σ (i0, i1, i2, i3, fo, de) j) i).2.1)) (ag2 (flpS σ j (2 ^ i)) ((jbI σ j (jbJ σ (i0, i1, i2, i3, fo, de) j) i).2.2.1)) (insI (trS (flpS σ j (2 ^ i))) ((jbI σ j (jbJ σ (i0, i1, i2, i3, fo, de) j) i).2.2.2.1) ((flpS σ j (2 ^ i)) 0)) (decodeV (flpS σ j (2 ^ i))) (decTV (flpS σ j (2 ^ i)))) H := hP
                  have hD : va_D FA (MX Y A σ hf hn wt wn tmS cdS (wdS σ) sy gp (ddS σ) (ag0 (flpS σ j (2 ^ i)) ((jbI σ j (jbJ σ (i0, i1, i2, i3, fo, de) j) i).1)) (ag1 (flpS σ j (2 ^ i)) ((jbI σ j (jbJ σ (i0, i1, i2, i3, fo, de) j) i).2.1)) (ag2 (flpS σ j (2 ^ i)) ((jbI σ j (jbJ σ (i0, i1, i2, i3, fo, de) j) i).2.2.1)) (insI (trS (flpS σ j (2 ^ i))) ((jbI σ j (jbJ σ (i0, i1, i2, i3, fo, de) j) i).2.2.2.1) ((flpS σ j (2 ^ i)) 0)) (decodeV (flpS σ j (2 ^ i))) (decTV (flpS σ j (2 ^ i)))) := MX_dd hD
                  refine lv_iinc (v := (nI (i + 1))) (lv' := [(3, .int (nI (i + 1))), (1, .int (nI ((frbI σ j + (if zL (σ 7) j = 1 then 0 else cnt (frbP σ j) i)) + (b01 (frbP σ j i))))), (2, .int (nI j)), (0, .ref (A 0))]) hx hb dX6_fragileBits_79 hl (k := 1) rfl (zinc _) (by decide) rfl (fun ls hl => ?_)
                  refine lv_goto (tgt := 16) hx hb dX6_fragileBits_82 (by decide) ?_
                  rw [show (.int (nI ((frbI σ j + (if zL (σ 7) j = 1 then 0 else cnt (frbP σ j) i)) + (b01 (frbP σ j i)))) : Value) = .int (nI (frbI σ j + (if zL (σ 7) j = 1 then 0 else cnt (frbP σ j) (i + 1)))) from congrArg _ (congrArg nI (show frbI σ j + (if zL (σ 7) j = 1 then 0 else cnt (frbP σ j) i) + b01 (frbP σ j i) = frbI σ j + (if zL (σ 7) j = 1 then 0 else cnt (frbP σ j) (i + 1)) from by rw [if_neg c31, if_neg c31, Nat.add_assoc]; rfl))] at hl
                  have hP : va_P D vwCl (MX Y A σ hf hn wt wn tmS cdS (wdS σ) sy gp (ddS σ) ((jbI σ j (jbJ σ (i0, i1, i2, i3, fo, de) j) (i + 1)).1) ((jbI σ j (jbJ σ (i0, i1, i2, i3, fo, de) j) (i + 1)).2.1) ((jbI σ j (jbJ σ (i0, i1, i2, i3, fo, de) j) (i + 1)).2.2.1) ((jbI σ j (jbJ σ (i0, i1, i2, i3, fo, de) j) (i + 1)).2.2.2.1) ((jbI σ j (jbJ σ (i0, i1, i2, i3, fo, de) j) (i + 1)).2.2.2.2.1) ((jbI σ j (jbJ σ (i0, i1, i2, i3, fo, de) j) (i + 1)).2.2.2.2.2)) H := hP
                  have hD : va_D FA (MX Y A σ hf hn wt wn tmS cdS (wdS σ) sy gp (ddS σ) ((jbI σ j (jbJ σ (i0, i1, i2, i3, fo, de) j) (i + 1)).1) ((jbI σ j (jbJ σ (i0, i1, i2, i3, fo, de) j) (i + 1)).2.1) ((jbI σ j (jbJ σ (i0, i1, i2, i3, fo, de) j) (i + 1)).2.2.1) ((jbI σ j (jbJ σ (i0, i1, i2, i3, fo, de) j) (i + 1)).2.2.2.1) ((jbI σ j (jbJ σ (i0, i1, i2, i3, fo, de) j) (i + 1)).2.2.2.2.1) ((jbI σ j (jbJ σ (i0, i1, i2, i3, fo, de) j) (i + 1)).2.2.2.2.2)) := MX_dd hD
                  exact ih16 (i + 1) (by omega) (fun z => absurd z c31) (by omega) H locs hP hD hS ls (lv_sub hl [0, 2, 1, 3] rfl)
                refine zb_if_eq (tgt := 61)  hx hb dX6_fragileBits_54 (by decide)  (fun c54 => ?_) (fun c54 => ?_)
                · refine lv_iconst (v := (nI 1)) hx hb dX6_fragileBits_61 (by decide) ?_
                  refine zt_i (v := (nI (b01 (frbP σ j i)))) (by first | exact congrArg nI (frb_y (by omega) c31 c54) | exact congrArg nI (frb_n (by omega) c31 c54)) ?_
                  exact J62
                · refine lv_iconst (v := (nI 0)) hx hb dX6_fragileBits_57 (by decide) ?_
                  refine lv_goto (tgt := 62) hx hb dX6_fragileBits_58 (by decide) ?_
                  refine zt_i (v := (nI (b01 (frbP σ j i)))) (by first | exact congrArg nI (frb_y (by omega) c31 c54) | exact congrArg nI (frb_n (by omega) c31 c54)) ?_
                  exact J62
        rw [show (.int (nI (frbI σ j)) : Value) = .int (nI (frbI σ j + (if zL (σ 7) j = 1 then 0 else cnt (frbP σ j) 0))) from congrArg _ (congrArg nI (show frbI σ j = frbI σ j + (if zL (σ 7) j = 1 then 0 else 0) from by rw [ite_self]; rfl))] at hl
        have hP : va_P D vwCl (MX Y A σ hf hn wt wn tmS cdS (wdS σ) sy gp (ddS σ) ((jbI σ j (jbJ σ (i0, i1, i2, i3, fo, de) j) 0).1) ((jbI σ j (jbJ σ (i0, i1, i2, i3, fo, de) j) 0).2.1) ((jbI σ j (jbJ σ (i0, i1, i2, i3, fo, de) j) 0).2.2.1) ((jbI σ j (jbJ σ (i0, i1, i2, i3, fo, de) j) 0).2.2.2.1) ((jbI σ j (jbJ σ (i0, i1, i2, i3, fo, de) j) 0).2.2.2.2.1) ((jbI σ j (jbJ σ (i0, i1, i2, i3, fo, de) j) 0).2.2.2.2.2)) H := hP
        have hD : va_D FA (MX Y A σ hf hn wt wn tmS cdS (wdS σ) sy gp (ddS σ) ((jbI σ j (jbJ σ (i0, i1, i2, i3, fo, de) j) 0).1) ((jbI σ j (jbJ σ (i0, i1, i2, i3, fo, de) j) 0).2.1) ((jbI σ j (jbJ σ (i0, i1, i2, i3, fo, de) j) 0).2.2.1) ((jbI σ j (jbJ σ (i0, i1, i2, i3, fo, de) j) 0).2.2.2.1) ((jbI σ j (jbJ σ (i0, i1, i2, i3, fo, de) j) 0).2.2.2.2.1) ((jbI σ j (jbJ σ (i0, i1, i2, i3, fo, de) j) 0).2.2.2.2.2)) := MX_dd hD
        exact L16 (σ 2 - 0 + 1) 0 (by omega) (fun _ => rfl) (Nat.lt_succ_self _) _ _ hP hD hS ls (lv_sub hl [0, 1, 2, 3] rfl)
  have hP : va_P D vwCl (MX Y A σ hf hn wt wn tmS cdS (wdS σ) sy gp (ddS σ) ((jbJ σ (i0, i1, i2, i3, fo, de) 0).1) ((jbJ σ (i0, i1, i2, i3, fo, de) 0).2.1) ((jbJ σ (i0, i1, i2, i3, fo, de) 0).2.2.1) ((jbJ σ (i0, i1, i2, i3, fo, de) 0).2.2.2.1) ((jbJ σ (i0, i1, i2, i3, fo, de) 0).2.2.2.2.1) ((jbJ σ (i0, i1, i2, i3, fo, de) 0).2.2.2.2.2)) H := hP
  have hD : va_D FA (MX Y A σ hf hn wt wn tmS cdS (wdS σ) sy gp (ddS σ) ((jbJ σ (i0, i1, i2, i3, fo, de) 0).1) ((jbJ σ (i0, i1, i2, i3, fo, de) 0).2.1) ((jbJ σ (i0, i1, i2, i3, fo, de) 0).2.2.1) ((jbJ σ (i0, i1, i2, i3, fo, de) 0).2.2.2.1) ((jbJ σ (i0, i1, i2, i3, fo, de) 0).2.2.2.2.1) ((jbJ σ (i0, i1, i2, i3, fo, de) 0).2.2.2.2.2)) := MX_dd hD
  exact L4 (σ 0 - 0 + 1) 0 (by omega) (Nat.lt_succ_self _) _ _ hP hD hS ls (lv_sub hl [0, 1, 2] rfl)
theorem qX6_fragileBlocks_Cond_fieldLink_RX6_7_NestedCodesModel_d_I_ : Cond.fieldLink RX6 7 "NestedCodesModel" "d" "[I" ∈ wsX6_fragileBlocks := by decide +kernel
theorem qX6_fragileBlocks_inX6 : ∀ w ∈ wsX60, w ∈ wsX6_fragileBlocks := by decide +kernel
set_option maxHeartbeats 4000000 in
set_option maxRecDepth 100000 in
theorem c_X6_fragileBlocks (l : Launch) (D : va_G) (Y : Nat → ClassId) (A : Nat → Nat) (σ : Nat → Nat) (hf : Nat → Nat) (hn : Nat) (wt : Nat → Nat) (wn : Nat) (sy : Nat → Nat) (gp : Nat → Nat) (i0 : Nat → Nat) (i1 : Nat → Nat) (i2 : Nat → Nat) (i3 : Nat → Nat) (fo : Int32) (de : Int32)   (kσ : zWF σ) (ksy : ∀ w9, w9 < 2 ^ (σ 2) → sy w9 = syS σ w9) (kgp : ∀ w9, w9 < 2 ^ (σ 2) → gp w9 = gpS σ w9) : Met l yX6_fragileBlocks wsX6_fragileBlocks ({ frames := 5, cells := 0, slots := 0, locals := 108 } : Room) (va_Pc [.ref (A 0)] (zBw D Y (MX Y A σ hf hn wt wn tmS cdS (wdS σ) sy gp (ddS σ) i0 i1 i2 i3 fo de))) (zW (some (.int (nI (frkI σ (σ 0))))) D (MX Y A σ hf hn wt wn tmS cdS (wdS σ) sy gp (ddS σ) ((jkJ σ (i0, i1, i2, i3, fo, de) (σ 0)).1) ((jkJ σ (i0, i1, i2, i3, fo, de) (σ 0)).2.1) ((jkJ σ (i0, i1, i2, i3, fo, de) (σ 0)).2.2.1) ((jkJ σ (i0, i1, i2, i3, fo, de) (σ 0)).2.2.2.1) ((jkJ σ (i0, i1, i2, i3, fo, de) (σ 0)).2.2.2.2.1) ((jkJ σ (i0, i1, i2, i3, fo, de) (σ 0)).2.2.2.2.2)) (zA (MX Y A σ hf hn wt wn tmS cdS (wdS σ) sy gp (ddS σ) i0 i1 i2 i3 fo de))) 0 0 (zA (MX Y A σ hf hn wt wn tmS cdS (wdS σ) sy gp (ddS σ) i0 i1 i2 i3 fo de)) := by
  refine zw_of (cc := cX6_fragileBlocks) (maxL := 4) (ret := (some .int)) (by decide) rfl (Nat.le_of_ble_eq_true rfl) ?_
  intro p e s m below meth c R args Q FA hR hx hb hml hr hlk hown hts hK hN hQ hP hD hS ls hl
  have hown : s.vm.findClass RX6 = some m.cls := hown
  have hl : lv_has ls 4 [(0, .ref (A 0))] := hl
  have hS := hS
  have kw := kσ
  obtain ⟨n3, n12, d1, d3, dn, b4, b10, gl, lm, sn, wl, wnz⟩ := kw
  have pb := zp_b b10
  have pk9 := zp_k d3
  suffices hgo : ∀ (H : Heap) (locs : List Loc), va_P D vwCl (MX Y A σ hf hn wt wn tmS cdS (wdS σ) sy gp (ddS σ) i0 i1 i2 i3 fo de) H → va_S FA s.heap H locs → W p l e R s m args below meth c H locs 0 0 Q (F0 m 0 ls []) from hgo _ _ hP hS
  clear hP hS
  intro H locs hP hS
  refine lv_iconst (v := (nI 0)) hx hb dX6_fragileBlocks_0 (by decide) ?_
  refine lv_istore_n (lv' := [(1, .int (nI 0)), (0, .ref (A 0))]) hx hb dX6_fragileBlocks_1 rfl hl (by decide) rfl (fun ls hl => ?_)
  refine lv_aload_n hx hb dX6_fragileBlocks_2 rfl (lv_at hl 1 rfl) ?_
  refine va_get (D := D) (ci := 6) (v := .ref (A 1)) (C := RX6) (T := TX6) (N := 17) hx hb hts qX6_fragileBlocks_inX6 hown hK hP 0 rfl rfl 0 (by decide) (hts _ qX6_fragileBlocks_Cond_fieldLink_RX6_7_NestedCodesModel_d_I_) (fun _ h9 => h9) rfl dX6_fragileBlocks_3 ?_
  refine lv_bipush (v := (nI 7)) hx hb dX6_fragileBlocks_6 (by decide) ?_
  refine za_i hx hb hK hP 1 (f := fun k9 => nI (σ k9)) (v := (nI (σ 7))) rfl (by omega) (by decide) dX6_fragileBlocks_8 (rfl) ?_
  refine lv_istore_n (lv' := [(2, .int (nI (σ 7))), (1, .int (nI 0)), (0, .ref (A 0))]) hx hb dX6_fragileBlocks_9 rfl hl (by decide) rfl (fun ls hl => ?_)
  refine lv_iconst (v := (nI 0)) hx hb dX6_fragileBlocks_10 (by decide) ?_
  refine lv_istore_n (lv' := [(3, .int (nI 0)), (2, .int (nI (σ 7))), (1, .int (nI 0)), (0, .ref (A 0))]) hx hb dX6_fragileBlocks_11 rfl hl (by decide) rfl (fun ls hl => ?_)
  have L12 : ∀ (n9 : Nat) (i : Nat) (v9 : Nat) (hi : i ≤ σ 0), σ 0 - i < n9 → ∀ (H : Heap) (locs : List Loc), va_P D vwCl (MX Y A (va_up σ 7 v9) hf hn wt wn tmS cdS (wdS σ) sy gp (ddS σ) ((jkJ σ (i0, i1, i2, i3, fo, de) i).1) ((jkJ σ (i0, i1, i2, i3, fo, de) i).2.1) ((jkJ σ (i0, i1, i2, i3, fo, de) i).2.2.1) ((jkJ σ (i0, i1, i2, i3, fo, de) i).2.2.2.1) ((jkJ σ (i0, i1, i2, i3, fo, de) i).2.2.2.2.1) ((jkJ σ (i0, i1, i2, i3, fo, de) i).2.2.2.2.2)) H → va_D FA (MX Y A (va_up σ 7 v9) hf hn wt wn tmS cdS (wdS σ) sy gp (ddS σ) ((jkJ σ (i0, i1, i2, i3, fo, de) i).1) ((jkJ σ (i0, i1, i2, i3, fo, de) i).2.1) ((jkJ σ (i0, i1, i2, i3, fo, de) i).2.2.1) ((jkJ σ (i0, i1, i2, i3, fo, de) i).2.2.2.1) ((jkJ σ (i0, i1, i2, i3, fo, de) i).2.2.2.2.1) ((jkJ σ (i0, i1, i2, i3, fo, de) i).2.2.2.2.2)) → va_S FA s.heap H locs → ∀ ls : Array Slot, lv_has ls 4 [(3, .int (nI i)), (2, .int (nI (σ 7))), (1, .int (nI (cnt (frkP σ) i))), (0, .ref (A 0))] → W p l e R s m args below meth c H locs 0 0 Q (F0 m 12 ls []) := by
    intro n9
    induction n9 with
    | zero => intro i v9 hi hn9; exact absurd hn9 (Nat.not_lt_zero _)
    | succ n9 ih9 =>
      have ih12 := ih9
      clear ih9
      intro i v9 hi hn9 H locs hP hD hS ls hl
      have h2i : 2 ^ i ≤ 2 ^ 12 := Nat.pow_le_pow_right (by decide) (by omega)
      refine lv_iload_n hx hb dX6_fragileBlocks_12 rfl (lv_at hl 0 rfl) ?_
      refine lv_aload_n hx hb dX6_fragileBlocks_13 rfl (lv_at hl 3 rfl) ?_
      refine va_get (D := D) (ci := 6) (v := .ref (A 1)) (C := RX6) (T := TX6) (N := 17) hx hb hts qX6_fragileBlocks_inX6 hown hK hP 0 rfl rfl 0 (by decide) (hts _ qX6_fragileBlocks_Cond_fieldLink_RX6_7_NestedCodesModel_d_I_) (fun _ h9 => h9) rfl dX6_fragileBlocks_14 ?_
      refine lv_iconst (v := (nI 0)) hx hb dX6_fragileBlocks_17 (by decide) ?_
      refine za_i hx hb hK hP 1 (f := fun k9 => nI ((va_up σ 7 v9) k9)) (v := (nI (σ 0))) rfl (by omega) (by decide) dX6_fragileBlocks_18 (congrArg nI (zu_ne _ _ _ (by decide))) ?_
      refine zn_icmp_ge (tgt := 55)  hx hb dX6_fragileBlocks_19 (by decide) (by omega) (by omega) (fun c19 => ?_) (fun c19 => ?_)
      · obtain rfl : i = σ 0 := by omega
        refine lv_aload_n hx hb dX6_fragileBlocks_55 rfl (lv_at hl 3 rfl) ?_
        refine va_get (D := D) (ci := 6) (v := .ref (A 1)) (C := RX6) (T := TX6) (N := 17) hx hb hts qX6_fragileBlocks_inX6 hown hK hP 0 rfl rfl 0 (by decide) (hts _ qX6_fragileBlocks_Cond_fieldLink_RX6_7_NestedCodesModel_d_I_) (fun _ h9 => h9) rfl dX6_fragileBlocks_56 ?_
        refine lv_bipush (v := (nI 7)) hx hb dX6_fragileBlocks_59 (by decide) ?_
        refine lv_iload_n hx hb dX6_fragileBlocks_61 rfl (lv_at hl 1 rfl) ?_
        refine zs_i hx hb hK hP hD hS 1 (f := fun k9 => nI ((va_up σ 7 v9) k9)) rfl (by omega) (by decide) dX6_fragileBlocks_62 (fun H locs hP hD9 hS => ?_)
        rw [zupd] at hP
        rw [MX_s1] at hP
        have hP : va_P D vwCl (MX Y A (va_up (va_up σ 7 v9) 7 (σ 7)) hf hn wt wn tmS cdS (wdS σ) sy gp (ddS σ) ((jkJ σ (i0, i1, i2, i3, fo, de) (σ 0)).1) ((jkJ σ (i0, i1, i2, i3, fo, de) (σ 0)).2.1) ((jkJ σ (i0, i1, i2, i3, fo, de) (σ 0)).2.2.1) ((jkJ σ (i0, i1, i2, i3, fo, de) (σ 0)).2.2.2.1) ((jkJ σ (i0, i1, i2, i3, fo, de) (σ 0)).2.2.2.2.1) ((jkJ σ (i0, i1, i2, i3, fo, de) (σ 0)).2.2.2.2.2)) H := hP
        have hD : va_D FA (MX Y A (va_up (va_up σ 7 v9) 7 (σ 7)) hf hn wt wn tmS cdS (wdS σ) sy gp (ddS σ) ((jkJ σ (i0, i1, i2, i3, fo, de) (σ 0)).1) ((jkJ σ (i0, i1, i2, i3, fo, de) (σ 0)).2.1) ((jkJ σ (i0, i1, i2, i3, fo, de) (σ 0)).2.2.1) ((jkJ σ (i0, i1, i2, i3, fo, de) (σ 0)).2.2.2.1) ((jkJ σ (i0, i1, i2, i3, fo, de) (σ 0)).2.2.2.2.1) ((jkJ σ (i0, i1, i2, i3, fo, de) (σ 0)).2.2.2.2.2)) := MX_dd hD
        clear hD9
        have e9 : va_up (va_up σ 7 v9) 7 (σ 7) = σ := los_back σ v9
        rw [e9] at hP
        clear e9
        have hP : va_P D vwCl (MX Y A σ hf hn wt wn tmS cdS (wdS σ) sy gp (ddS σ) ((jkJ σ (i0, i1, i2, i3, fo, de) (σ 0)).1) ((jkJ σ (i0, i1, i2, i3, fo, de) (σ 0)).2.1) ((jkJ σ (i0, i1, i2, i3, fo, de) (σ 0)).2.2.1) ((jkJ σ (i0, i1, i2, i3, fo, de) (σ 0)).2.2.2.1) ((jkJ σ (i0, i1, i2, i3, fo, de) (σ 0)).2.2.2.2.1) ((jkJ σ (i0, i1, i2, i3, fo, de) (σ 0)).2.2.2.2.2)) H := hP
        have hD : va_D FA (MX Y A σ hf hn wt wn tmS cdS (wdS σ) sy gp (ddS σ) ((jkJ σ (i0, i1, i2, i3, fo, de) (σ 0)).1) ((jkJ σ (i0, i1, i2, i3, fo, de) (σ 0)).2.1) ((jkJ σ (i0, i1, i2, i3, fo, de) (σ 0)).2.2.1) ((jkJ σ (i0, i1, i2, i3, fo, de) (σ 0)).2.2.2.1) ((jkJ σ (i0, i1, i2, i3, fo, de) (σ 0)).2.2.2.2.1) ((jkJ σ (i0, i1, i2, i3, fo, de) (σ 0)).2.2.2.2.2)) := MX_dd hD
        refine lv_iload_n hx hb dX6_fragileBlocks_63 rfl (lv_at hl 2 rfl) ?_
        exact zw_i hx hb hr hlk hQ hS dX6_fragileBlocks_64 (rfl) (hP)
      · refine lv_aload_n hx hb dX6_fragileBlocks_22 rfl (lv_at hl 3 rfl) ?_
        refine va_get (D := D) (ci := 6) (v := .ref (A 1)) (C := RX6) (T := TX6) (N := 17) hx hb hts qX6_fragileBlocks_inX6 hown hK hP 0 rfl rfl 0 (by decide) (hts _ qX6_fragileBlocks_Cond_fieldLink_RX6_7_NestedCodesModel_d_I_) (fun _ h9 => h9) rfl dX6_fragileBlocks_23 ?_
        refine lv_bipush (v := (nI 7)) hx hb dX6_fragileBlocks_26 (by decide) ?_
        refine lv_iload_n hx hb dX6_fragileBlocks_28 rfl (lv_at hl 1 rfl) ?_
        refine lv_iconst (v := (nI 1)) hx hb dX6_fragileBlocks_29 (by decide) ?_
        refine lv_iload_n hx hb dX6_fragileBlocks_30 rfl (lv_at hl 0 rfl) ?_
        refine zv_ishl hx hb (v := (nI (2 ^ i))) dX6_fragileBlocks_31 (by rw [zShl (by omega) (by omega), Nat.one_mul]) ?_
        refine zv_ior hx hb (v := (nI ((σ 7) ||| (2 ^ i)))) dX6_fragileBlocks_32 (fa_or _ _) ?_
        refine zs_i hx hb hK hP hD hS 1 (f := fun k9 => nI ((va_up σ 7 v9) k9)) rfl (by omega) (by decide) dX6_fragileBlocks_33 (fun H locs hP hD9 hS => ?_)
        rw [zupd] at hP
        rw [MX_s1] at hP
        have hP : va_P D vwCl (MX Y A (va_up (va_up σ 7 v9) 7 ((σ 7) ||| (2 ^ i))) hf hn wt wn tmS cdS (wdS σ) sy gp (ddS σ) ((jkJ σ (i0, i1, i2, i3, fo, de) i).1) ((jkJ σ (i0, i1, i2, i3, fo, de) i).2.1) ((jkJ σ (i0, i1, i2, i3, fo, de) i).2.2.1) ((jkJ σ (i0, i1, i2, i3, fo, de) i).2.2.2.1) ((jkJ σ (i0, i1, i2, i3, fo, de) i).2.2.2.2.1) ((jkJ σ (i0, i1, i2, i3, fo, de) i).2.2.2.2.2)) H := hP
        have hD : va_D FA (MX Y A (va_up (va_up σ 7 v9) 7 ((σ 7) ||| (2 ^ i))) hf hn wt wn tmS cdS (wdS σ) sy gp (ddS σ) ((jkJ σ (i0, i1, i2, i3, fo, de) i).1) ((jkJ σ (i0, i1, i2, i3, fo, de) i).2.1) ((jkJ σ (i0, i1, i2, i3, fo, de) i).2.2.1) ((jkJ σ (i0, i1, i2, i3, fo, de) i).2.2.2.1) ((jkJ σ (i0, i1, i2, i3, fo, de) i).2.2.2.2.1) ((jkJ σ (i0, i1, i2, i3, fo, de) i).2.2.2.2.2)) := MX_dd hD
        clear hD9
        have e9 : va_up (va_up σ 7 v9) 7 ((σ 7) ||| (2 ^ i)) = losS σ i 1 := los_one σ i v9
        rw [e9] at hP
        clear e9
        have hP : va_P D vwCl (MX Y A (losS σ i 1) hf hn wt wn tmS cdS (wdS (losS σ i 1)) sy gp (ddS (losS σ i 1)) ((jkJ σ (i0, i1, i2, i3, fo, de) i).1) ((jkJ σ (i0, i1, i2, i3, fo, de) i).2.1) ((jkJ σ (i0, i1, i2, i3, fo, de) i).2.2.1) ((jkJ σ (i0, i1, i2, i3, fo, de) i).2.2.2.1) ((jkJ σ (i0, i1, i2, i3, fo, de) i).2.2.2.2.1) ((jkJ σ (i0, i1, i2, i3, fo, de) i).2.2.2.2.2)) H := by rw [wd_same (los_g σ i 1), dd_same (los_g σ i 1)]; exact hP
        have hP : va_P D vwCl (MX Y A (losS σ i 1) hf hn wt wn tmS cdS (wdS (losS σ i 1)) sy gp (ddS (losS σ i 1)) ((jkJ σ (i0, i1, i2, i3, fo, de) i).1) ((jkJ σ (i0, i1, i2, i3, fo, de) i).2.1) ((jkJ σ (i0, i1, i2, i3, fo, de) i).2.2.1) ((jkJ σ (i0, i1, i2, i3, fo, de) i).2.2.2.1) ((jkJ σ (i0, i1, i2, i3, fo, de) i).2.2.2.2.1) ((jkJ σ (i0, i1, i2, i3, fo, de) i).2.2.2.2.2)) H := hP
        have hD : va_D FA (MX Y A (losS σ i 1) hf hn wt wn tmS cdS (wdS (losS σ i 1)) sy gp (ddS (losS σ i 1)) ((jkJ σ (i0, i1, i2, i3, fo, de) i).1) ((jkJ σ (i0, i1, i2, i3, fo, de) i).2.1) ((jkJ σ (i0, i1, i2, i3, fo, de) i).2.2.1) ((jkJ σ (i0, i1, i2, i3, fo, de) i).2.2.2.1) ((jkJ σ (i0, i1, i2, i3, fo, de) i).2.2.2.2.1) ((jkJ σ (i0, i1, i2, i3, fo, de) i).2.2.2.2.2)) := MX_dd hD
        refine lv_iload_n hx hb dX6_fragileBlocks_34 rfl (lv_at hl 2 rfl) ?_
        refine lv_aload_n hx hb dX6_fragileBlocks_35 rfl (lv_at hl 3 rfl) ?_
        refine zc_w (va_runV (As := []) (rest := [.int (nI (cnt (frkP σ) i))]) ⟨hx, hb, hml, hown, hts⟩ (c_X6_isRight l D Y A (losS σ i 1) hf hn wt wn sy gp ((jkJ σ (i0, i1, i2, i3, fo, de) i).1) ((jkJ σ (i0, i1, i2, i3, fo, de) i).2.1) ((jkJ σ (i0, i1, i2, i3, fo, de) i).2.2.1) ((jkJ σ (i0, i1, i2, i3, fo, de) i).2.2.2.1) ((jkJ σ (i0, i1, i2, i3, fo, de) i).2.2.2.2.1) ((jkJ σ (i0, i1, i2, i3, fo, de) i).2.2.2.2.2)  (zWF_los kσ (by omega)) (sy_keep (los_g σ i 1) (zu_ne _ _ _ (by decide)) ksy) (gp_keep (los_g σ i 1) (zu_ne _ _ _ (by decide)) kgp)) (cwV 0 hts gX6_fragileBlocks_X6_isRight rfl rfl rfl (by decide +kernel) (by rw [hR]; exact ⟨Nat.le_of_ble_eq_true rfl, Nat.le_of_ble_eq_true rfl⟩)) ⟨zBw_blind, va_recv hK hP (ci := 6) (q0 := 0) rfl rfl, zp_w hP hD hK hN⟩ rfl rfl hl.1 rfl (lv_room (Nat.le_of_ble_eq_true rfl)) dX6_fragileBlocks_36 ⟨Nat.zero_le _, Nat.zero_le _⟩).run hS (zA_of hD) (fun H locs hP hz hk hS => ?_)
        have hD : va_D FA (MX Y A (losS σ i 1) hf hn wt wn tmS cdS (wdS (losS σ i 1)) sy gp (ddS (losS σ i 1)) (ag0 (losS σ i 1) ((jkJ σ (i0, i1, i2, i3, fo, de) i).1)) (ag1 (losS σ i 1) ((jkJ σ (i0, i1, i2, i3, fo, de) i).2.1)) (ag2 (losS σ i 1) ((jkJ σ (i0, i1, i2, i3, fo, de) i).2.2.1)) (insI (trS (losS σ i 1)) ((jkJ σ (i0, i1, i2, i3, fo, de) i).2.2.2.1) ((losS σ i 1) 0)) (decodeV (losS σ i 1)) (decTV (losS σ i 1))) := MX_dd hD
        have J47 : W p l e R s m args below meth c H locs 0 0 Q (F0 m 47 ls [.int (nI (b01 (frkP σ i))), .int (nI (cnt (frkP σ) i))]) := by
          refine zv_iadd hx hb (v := (nI ((cnt (frkP σ) i) + (b01 (frkP σ i))))) dX6_fragileBlocks_47 (nI_add _ _) ?_
          refine lv_istore_n (lv' := [(1, .int (nI ((cnt (frkP σ) i) + (b01 (frkP σ i))))), (3, .int (nI i)), (2, .int (nI (σ 7))), (0, .ref (A 0))]) hx hb dX6_fragileBlocks_48 rfl hl (by decide) rfl (fun ls hl => ?_)
          rw [wd_same (los_g σ i 1), dd_same (los_g σ i 1)] at hP
          have hP : va_P D vwCl (MX Y A (va_up σ 7 (losM (σ 7) i 1)) hf hn wt wn tmS cdS (wdS σ) sy gp (ddS σ) (ag0 (losS σ i 1) ((jkJ σ (i0, i1, i2, i3, fo, de) i).1)) (ag1 (losS σ i 1) ((jkJ σ (i0, i1, i2, i3, fo, de) i).2.1)) (ag2 (losS σ i 1) ((jkJ σ (i0, i1, i2, i3, fo, de) i).2.2.1)) (insI (trS (losS σ i 1)) ((jkJ σ (i0, i1, i2, i3, fo, de) i).2.2.2.1) ((losS σ i 1) 0)) (decodeV (losS σ i 1)) (decTV (losS σ i 1))) H := hP
          have hD : va_D FA (MX Y A (va_up σ 7 (losM (σ 7) i 1)) hf hn wt wn tmS cdS (wdS σ) sy gp (ddS σ) (ag0 (losS σ i 1) ((jkJ σ (i0, i1, i2, i3, fo, de) i).1)) (ag1 (losS σ i 1) ((jkJ σ (i0, i1, i2, i3, fo, de) i).2.1)) (ag2 (losS σ i 1) ((jkJ σ (i0, i1, i2, i3, fo, de) i).2.2.1)) (insI (trS (losS σ i 1)) ((jkJ σ (i0, i1, i2, i3, fo, de) i).2.2.2.1) ((losS σ i 1) 0)) (decodeV (losS σ i 1)) (decTV (losS σ i 1))) := MX_dd hD
          refine lv_iinc (v := (nI (i + 1))) (lv' := [(3, .int (nI (i + 1))), (1, .int (nI ((cnt (frkP σ) i) + (b01 (frkP σ i))))), (2, .int (nI (σ 7))), (0, .ref (A 0))]) hx hb dX6_fragileBlocks_49 hl (k := 1) rfl (zinc _) (by decide) rfl (fun ls hl => ?_)
          refine lv_goto (tgt := 12) hx hb dX6_fragileBlocks_52 (by decide) ?_
          have hP : va_P D vwCl (MX Y A (va_up σ 7 (losM (σ 7) i 1)) hf hn wt wn tmS cdS (wdS σ) sy gp (ddS σ) ((jkJ σ (i0, i1, i2, i3, fo, de) (i + 1)).1) ((jkJ σ (i0, i1, i2, i3, fo, de) (i + 1)).2.1) ((jkJ σ (i0, i1, i2, i3, fo, de) (i + 1)).2.2.1) ((jkJ σ (i0, i1, i2, i3, fo, de) (i + 1)).2.2.2.1) ((jkJ σ (i0, i1, i2, i3, fo, de) (i + 1)).2.2.2.2.1) ((jkJ σ (i0, i1, i2, i3, fo, de) (i + 1)).2.2.2.2.2)) H := hP
          have hD : va_D FA (MX Y A (va_up σ 7 (losM (σ 7) i 1)) hf hn wt wn tmS cdS (wdS σ) sy gp (ddS σ) ((jkJ σ (i0, i1, i2, i3, fo, de) (i + 1)).1) ((jkJ σ (i0, i1, i2, i3, fo, de) (i + 1)).2.1) ((jkJ σ (i0, i1, i2, i3, fo, de) (i + 1)).2.2.1) ((jkJ σ (i0, i1, i2, i3, fo, de) (i + 1)).2.2.2.1) ((jkJ σ (i0, i1, i2, i3, fo, de) (i + 1)).2.2.2.2.1) ((jkJ σ (i0, i1, i2, i3, fo, de) (i + 1)).2.2.2.2.2)) := MX_dd hD
          exact ih12 (i + 1) (losM (σ 7) i 1) (by omega) (by omega) H locs hP hD hS ls (lv_sub hl [0, 2, 1, 3] rfl)
        refine zb_if_eq (tgt := 46)  hx hb dX6_fragileBlocks_39 (by decide)  (fun c39 => ?_) (fun c39 => ?_)
        · refine lv_iconst (v := (nI 1)) hx hb dX6_fragileBlocks_46 (by decide) ?_
          refine zt_i (v := (nI (b01 (frkP σ i)))) (by first | exact congrArg nI (frk_y (by omega) c39) | exact congrArg nI (frk_n (by omega) c39)) ?_
          exact J47
        · refine lv_iconst (v := (nI 0)) hx hb dX6_fragileBlocks_42 (by decide) ?_
          refine lv_goto (tgt := 47) hx hb dX6_fragileBlocks_43 (by decide) ?_
          refine zt_i (v := (nI (b01 (frkP σ i)))) (by first | exact congrArg nI (frk_y (by omega) c39) | exact congrArg nI (frk_n (by omega) c39)) ?_
          exact J47
  have hP : va_P D vwCl (MX Y A (va_up σ 7 (σ 7)) hf hn wt wn tmS cdS (wdS σ) sy gp (ddS σ) ((jkJ σ (i0, i1, i2, i3, fo, de) 0).1) ((jkJ σ (i0, i1, i2, i3, fo, de) 0).2.1) ((jkJ σ (i0, i1, i2, i3, fo, de) 0).2.2.1) ((jkJ σ (i0, i1, i2, i3, fo, de) 0).2.2.2.1) ((jkJ σ (i0, i1, i2, i3, fo, de) 0).2.2.2.2.1) ((jkJ σ (i0, i1, i2, i3, fo, de) 0).2.2.2.2.2)) H := by rw [← zup_self σ 7 (σ 7) rfl]; exact hP
  have hP : va_P D vwCl (MX Y A (va_up σ 7 (σ 7)) hf hn wt wn tmS cdS (wdS σ) sy gp (ddS σ) ((jkJ σ (i0, i1, i2, i3, fo, de) 0).1) ((jkJ σ (i0, i1, i2, i3, fo, de) 0).2.1) ((jkJ σ (i0, i1, i2, i3, fo, de) 0).2.2.1) ((jkJ σ (i0, i1, i2, i3, fo, de) 0).2.2.2.1) ((jkJ σ (i0, i1, i2, i3, fo, de) 0).2.2.2.2.1) ((jkJ σ (i0, i1, i2, i3, fo, de) 0).2.2.2.2.2)) H := hP
  have hD : va_D FA (MX Y A (va_up σ 7 (σ 7)) hf hn wt wn tmS cdS (wdS σ) sy gp (ddS σ) ((jkJ σ (i0, i1, i2, i3, fo, de) 0).1) ((jkJ σ (i0, i1, i2, i3, fo, de) 0).2.1) ((jkJ σ (i0, i1, i2, i3, fo, de) 0).2.2.1) ((jkJ σ (i0, i1, i2, i3, fo, de) 0).2.2.2.1) ((jkJ σ (i0, i1, i2, i3, fo, de) 0).2.2.2.2.1) ((jkJ σ (i0, i1, i2, i3, fo, de) 0).2.2.2.2.2)) := MX_dd hD
  exact L12 (σ 0 - 0 + 1) 0 (σ 7) (by omega) (Nat.lt_succ_self _) _ _ hP hD hS ls (lv_sub hl [0, 1, 2, 3] rfl)
