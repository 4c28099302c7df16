theorem qX6_nearest_Cond_fieldLink_RX6_7_NestedCodesModel_d_I_ : Cond.fieldLink RX6 7 "NestedCodesModel" "d" "[I" ∈ wsX6_nearest := by decide +kernel
theorem qX6_nearest_Cond_fieldLink_RX6_23_NestedCodesModel_code_B_ : Cond.fieldLink RX6 23 "NestedCodesModel" "code" "[B" ∈ wsX6_nearest := by decide +kernel
set_option maxHeartbeats 4000000 in
set_option maxRecDepth 100000 in
theorem c_X6_nearest (l : Launch) (D : va_G) (Y : Nat → ClassId) (A : Nat → Nat) (σ : Nat → Nat) (hf : Nat → Nat) (hn : Nat) (wt : Nat → Nat) (wn : Nat) (sy : Nat → Nat) (gp : Nat → Nat) (i0 : Nat → Nat) (i1 : Nat → Nat) (i2 : Nat → Nat) (i3 : Nat → Nat) (fo : Int32) (de : Int32) (x : Int32)  (kσ : zWF σ) (ksy : ∀ w9, w9 < 2 ^ (σ 2) → sy w9 = syS σ w9) (kgp : ∀ w9, w9 < 2 ^ (σ 2) → gp w9 = gpS σ w9) (hx0 : 0 ≤ (x).toInt) (hx2 : (x).toInt < 2) (hlm : lawM σ < nMs σ) : Met l yX6_nearest wsX6_nearest ({ frames := 4, cells := 0, slots := 0, locals := 88 } : Room) (va_Pc [.ref (A 0), .int (x)] (zBw D Y (MX Y A σ hf hn wt wn tmS cdS (wdS σ) sy gp (ddS σ) i0 i1 i2 i3 fo de))) (zW (some (.int (nearV σ (x).toInt))) D (MX Y A σ hf hn wt wn tmS cdS (wdS σ) sy gp (ddS σ) (ag0 σ i0) (ag1 σ i1) (ag2 σ i2) (insI (trS σ) i3 (σ 0)) (decodeV σ) (decTV σ)) (zA (MX Y A σ hf hn wt wn tmS cdS (wdS σ) sy gp (ddS σ) i0 i1 i2 i3 fo de))) 0 0 (zA (MX Y A σ hf hn wt wn tmS cdS (wdS σ) sy gp (ddS σ) i0 i1 i2 i3 fo de)) := by
  refine zw_of (cc := cX6_nearest) (maxL := 7) (ret := (some .int)) (by decide) rfl (Nat.le_of_ble_eq_true rfl) ?_
  intro p e s m below meth c R args Q FA hR hx hb hml hr hlk hown hts hK hN hQ hP hD hS ls hl
  have hown : s.vm.findClass RX6 = some m.cls := hown
  have hl : lv_has ls 7 [(0, .ref (A 0)), (1, .int (x))] := hl
  have hS := hS
  have kw := kσ
  obtain ⟨n3, n12, d1, d3, dn, b4, b10, gl, lm, sn, wl, wnz⟩ := kw
  have pb := zp_b b10
  have pk9 := zp_k d3
  suffices hgo : ∀ (H : Heap) (locs : List Loc), va_P D vwCl (MX Y A σ hf hn wt wn tmS cdS (wdS σ) sy gp (ddS σ) i0 i1 i2 i3 fo de) H → va_S FA s.heap H locs → W p l e R s m args below meth c H locs 0 0 Q (F0 m 0 ls []) from hgo _ _ hP hS
  clear hP hS
  intro H locs hP hS
  have hlm2 : lawM σ < 2 ^ (4 * σ 1) := hlm
  refine lv_iload_n hx hb dX6_nearest_0 rfl (lv_at hl 1 rfl) ?_
  refine lv_iconst (v := (nI 0)) hx hb dX6_nearest_1 (by decide) ?_
  refine lv_iconst (v := (nI 1)) hx hb dX6_nearest_2 (by decide) ?_
  refine zc_r (va_runS (As := [.int (x), .int (nI 0), .int (nI 1)]) (rest := []) ⟨hx, hb, hml, hown, hts⟩ (c_X6_in l D Y  x ((nI 0)) ((nI 1)) ) (va_cwS 3 hts gX6_nearest_X6_in rfl rfl rfl (by decide +kernel) (by rw [hR]; exact ⟨Nat.le_of_ble_eq_true rfl, Nat.le_of_ble_eq_true rfl⟩)) ⟨zB_blind, (zp_r (v := [.int (x), .int (nI 0), .int (nI 1)]) (fun k q h => absurd h (by simp)) hK hN)⟩ rfl rfl hl.1 rfl (lv_room (Nat.le_of_ble_eq_true rfl)) dX6_nearest_3 ⟨Nat.zero_le _, Nat.zero_le _⟩).run ?_
  have h3a : ((nI 0)).toInt = _ := zt_n (by omega)
  have h3b : ((nI 1)).toInt = _ := zt_n (by omega)
  refine zb_if_ne (tgt := 13)  hx hb dX6_nearest_6 (by decide)  (fun c6 => ?_) (fun c6 => ?_)
  · refine lv_aload_n hx hb dX6_nearest_13 rfl (lv_at hl 0 rfl) ?_
    refine zc_w (va_runV (As := []) (rest := []) ⟨hx, hb, hml, hown, hts⟩ (c_X6_decodes l D Y A σ hf hn wt wn sy gp i0 i1 i2 i3 fo de  kσ ksy kgp) (cwV 0 hts gX6_nearest_X6_decodes rfl rfl rfl (by decide +kernel) (by rw [hR]; exact ⟨Nat.le_of_ble_eq_true rfl, Nat.le_of_ble_eq_true rfl⟩)) ⟨zBw_blind, va_recv hK hP (ci := 6) (q0 := 0) rfl rfl, zp_w hP hD hK hN⟩ rfl rfl hl.1 rfl (lv_room (Nat.le_of_ble_eq_true rfl)) dX6_nearest_14 ⟨Nat.zero_le _, Nat.zero_le _⟩).run hS (zA_of hD) (fun H locs hP hz hk hS => ?_)
    have hD : va_D FA (MX Y A σ hf hn wt wn tmS cdS (wdS σ) sy gp (ddS σ) (ag0 σ i0) (ag1 σ i1) (ag2 σ i2) (insI (trS σ) i3 (σ 0)) (decodeV σ) (decTV σ)) := MX_dd hD
    refine lv_aload_n hx hb dX6_nearest_17 rfl (lv_at hl 0 rfl) ?_
    refine va_get (D := D) (ci := 6) (v := .int (decodeV σ)) (C := RX6) (T := TX6) (N := 17) hx hb hts qX6_nearest_inX6 hown hK hP 0 rfl rfl 15 (by decide) (hts _ qX6_nearest_Cond_fieldLink_RX6_115_NestedCodesModel_found_I_) (fun _ h9 => h9) rfl dX6_nearest_18 ?_
    refine zt_i (v := (nI (lawM σ))) (if_pos hlm) ?_
    refine zn_if_ge (tgt := 28)  hx hb dX6_nearest_21 (by decide) (by omega) (fun c21 => ?_) (fun c21 => ?_)
    · refine lv_bipush (v := (nI 99)) hx hb dX6_nearest_28 (by decide) ?_
      refine lv_istore_n (lv' := [(2, .int (nI 99)), (0, .ref (A 0)), (1, .int (x))]) hx hb dX6_nearest_30 rfl hl (by decide) rfl (fun ls hl => ?_)
      refine lv_iconst (v := (nI 0)) hx hb dX6_nearest_31 (by decide) ?_
      refine lv_istore_n (lv' := [(3, .int (nI 0)), (2, .int (nI 99)), (0, .ref (A 0)), (1, .int (x))]) hx hb dX6_nearest_32 rfl hl (by decide) rfl (fun ls hl => ?_)
      refine lv_iconst (v := (nI 0)) hx hb dX6_nearest_33 (by decide) ?_
      refine lv_istore (lv' := [(4, .int (nI 0)), (3, .int (nI 0)), (2, .int (nI 99)), (0, .ref (A 0)), (1, .int (x))]) hx hb dX6_nearest_34 hl (by decide) rfl (fun ls hl => ?_)
      have L36 : ∀ (n9 : Nat) (i : Nat) (hi : i ≤ nMs σ), nMs σ - i < n9 → ∀ (H : Heap) (locs : List Loc), va_P D vwCl (MX Y A σ hf hn wt wn tmS cdS (wdS σ) sy gp (ddS σ) (ag0 σ i0) (ag1 σ i1) (ag2 σ i2) (insI (trS σ) i3 (σ 0)) (decodeV σ) (decTV σ)) H → va_D FA (MX Y A σ hf hn wt wn tmS cdS (wdS σ) sy gp (ddS σ) (ag0 σ i0) (ag1 σ i1) (ag2 σ i2) (insI (trS σ) i3 (σ 0)) (decodeV σ) (decTV σ)) → va_S FA s.heap H locs → ∀ ls : Array Slot, lv_has ls 7 [(4, .int (nI i)), (3, .int (nI ((nbI (nrF σ (lawM σ)) (lawM σ) i).2))), (2, .int (nI ((nbI (nrF σ (lawM σ)) (lawM σ) i).1))), (0, .ref (A 0)), (1, .int (x))] → W p l e R s m args below meth c H locs 0 0 Q (F0 m 36 ls []) := by
        intro n9
        induction n9 with
        | zero => intro i hi hn9; exact absurd hn9 (Nat.not_lt_zero _)
        | succ n9 ih9 =>
          have ih36 := ih9
          clear ih9
          intro i hi hn9 H locs hP hD hS ls hl
          have hnm : nMs σ = 2 ^ (4 * σ 1) := rfl
          have hnb := nbI_le (nrF σ (lawM σ)) (lawM σ) i
          refine lv_iload hx hb dX6_nearest_36 (lv_at hl 0 rfl) ?_
          refine lv_aload_n hx hb dX6_nearest_38 rfl (lv_at hl 3 rfl) ?_
          refine zc_r (va_runV (As := []) (rest := [.int (nI i)]) ⟨hx, hb, hml, hown, hts⟩ (c_X6_messages l D Y A σ hf hn wt wn tmS cdS (wdS σ) sy gp (ddS σ) (ag0 σ i0) (ag1 σ i1) (ag2 σ i2) (insI (trS σ) i3 (σ 0)) (decodeV σ) (decTV σ)  kσ) (cwV 0 hts gX6_nearest_X6_messages rfl rfl rfl (by decide +kernel) (by rw [hR]; exact ⟨Nat.le_of_ble_eq_true rfl, Nat.le_of_ble_eq_true rfl⟩)) ⟨zB_blind, va_recv hK hP (ci := 6) (q0 := 0) rfl rfl, zp_r hP hK hN⟩ rfl rfl hl.1 rfl (lv_room (Nat.le_of_ble_eq_true rfl)) dX6_nearest_39 ⟨Nat.zero_le _, Nat.zero_le _⟩).run ?_
          refine zn_icmp_ge (tgt := 136)  hx hb dX6_nearest_42 (by decide) (by omega) (by omega) (fun c42 => ?_) (fun c42 => ?_)
          · obtain rfl : i = nMs σ := by omega
            have hne := (nb_end kσ hlm).1
            refine lv_iload_n hx hb dX6_nearest_136 rfl (lv_at hl 4 rfl) ?_
            refine zz_if_ne (tgt := 144) (a := (x).toInt) hx hb dX6_nearest_137 (by decide) (rfl) (fun c137 => ?_) (fun c137 => ?_)
            · refine lv_iload_n hx hb dX6_nearest_144 rfl (lv_at hl 1 rfl) ?_
              exact zw_i hx hb hr hlk hQ hS dX6_nearest_145 (by rw [hne]; exact (show nI (zfst (neB σ (lawM σ)) (nMs σ)) = nearV σ (x).toInt from by unfold nearV; rw [if_pos ⟨hx0, hx2⟩, if_pos hlm, if_neg (by omega)]; exact (if_pos (nb_end kσ hlm).2).symm)) (hP)
            · refine lv_iload_n hx hb dX6_nearest_140 rfl (lv_at hl 2 rfl) ?_
              refine lv_goto (tgt := 145) hx hb dX6_nearest_141 (by decide) ?_
              exact zw_i hx hb hr hlk hQ hS dX6_nearest_145 (by rw [hne]; exact (show nI (σ 0 - σ 1 + 1) = nearV σ (x).toInt from by unfold nearV; rw [if_pos ⟨hx0, hx2⟩, if_pos hlm, if_pos (by omega)])) (hP)
          · refine lv_iconst (v := (nI 0)) hx hb dX6_nearest_45 (by decide) ?_
            refine lv_istore (lv' := [(5, .int (nI 0)), (4, .int (nI i)), (3, .int (nI ((nbI (nrF σ (lawM σ)) (lawM σ) i).2))), (2, .int (nI ((nbI (nrF σ (lawM σ)) (lawM σ) i).1))), (0, .ref (A 0)), (1, .int (x))]) hx hb dX6_nearest_46 hl (by decide) rfl (fun ls hl => ?_)
            refine lv_iconst (v := (nI 0)) hx hb dX6_nearest_48 (by decide) ?_
            refine lv_istore (lv' := [(6, .int (nI 0)), (5, .int (nI 0)), (4, .int (nI i)), (3, .int (nI ((nbI (nrF σ (lawM σ)) (lawM σ) i).2))), (2, .int (nI ((nbI (nrF σ (lawM σ)) (lawM σ) i).1))), (0, .ref (A 0)), (1, .int (x))]) hx hb dX6_nearest_49 hl (by decide) rfl (fun ls hl => ?_)
            have L51 : ∀ (n9 : Nat) (t : Nat) (ht : t ≤ σ 0), σ 0 - t < n9 → ∀ (H : Heap) (locs : List Loc), va_P D vwCl (MX Y A σ hf hn wt wn tmS cdS (wdS σ) sy gp (ddS σ) (ag0 σ i0) (ag1 σ i1) (ag2 σ i2) (insI (trS σ) i3 (σ 0)) (decodeV σ) (decTV σ)) H → va_D FA (MX Y A σ hf hn wt wn tmS cdS (wdS σ) sy gp (ddS σ) (ag0 σ i0) (ag1 σ i1) (ag2 σ i2) (insI (trS σ) i3 (σ 0)) (decodeV σ) (decTV σ)) → va_S FA s.heap H locs → ∀ ls : Array Slot, lv_has ls 7 [(6, .int (nI t)), (5, .int (nI (cnt (fun j => !(zcw i j == zcw (lawM σ) j)) t))), (4, .int (nI i)), (3, .int (nI ((nbI (nrF σ (lawM σ)) (lawM σ) i).2))), (2, .int (nI ((nbI (nrF σ (lawM σ)) (lawM σ) i).1))), (0, .ref (A 0)), (1, .int (x))] → W p l e R s m args below meth c H locs 0 0 Q (F0 m 51 ls []) := by
              intro n9
              induction n9 with
              | zero => intro t ht hn9; exact absurd hn9 (Nat.not_lt_zero _)
              | succ n9 ih9 =>
                have ih51 := ih9
                clear ih9
                intro t ht hn9 H locs hP hD hS ls hl
                have hct := cnt_le (fun j => !(zcw i j == zcw (lawM σ) j)) t
                refine lv_iload hx hb dX6_nearest_51 (lv_at hl 0 rfl) ?_
                refine lv_aload_n hx hb dX6_nearest_53 rfl (lv_at hl 5 rfl) ?_
                refine va_get (D := D) (ci := 6) (v := .ref (A 1)) (C := RX6) (T := TX6) (N := 17) hx hb hts qX6_nearest_inX6 hown hK hP 0 rfl rfl 0 (by decide) (hts _ qX6_nearest_Cond_fieldLink_RX6_7_NestedCodesModel_d_I_) (fun _ h9 => h9) rfl dX6_nearest_54 ?_
                refine lv_iconst (v := (nI 0)) hx hb dX6_nearest_57 (by decide) ?_
                refine za_i hx hb hK hP 1 (f := fun k9 => nI (σ k9)) (v := (nI (σ 0))) rfl (by omega) (by decide) dX6_nearest_58 (rfl) ?_
                refine zn_icmp_ge (tgt := 109)  hx hb dX6_nearest_59 (by decide) (by omega) (by omega) (fun c59 => ?_) (fun c59 => ?_)
                · obtain rfl : t = σ 0 := by omega
                  refine lv_iload hx hb dX6_nearest_109 (lv_at hl 2 rfl) ?_
                  refine lv_aload_n hx hb dX6_nearest_111 rfl (lv_at hl 5 rfl) ?_
                  refine va_get (D := D) (ci := 6) (v := .int (decodeV σ)) (C := RX6) (T := TX6) (N := 17) hx hb hts qX6_nearest_inX6 hown hK hP 0 rfl rfl 15 (by decide) (hts _ qX6_nearest_Cond_fieldLink_RX6_115_NestedCodesModel_found_I_) (fun _ h9 => h9) rfl dX6_nearest_112 ?_
                  refine zt_i (v := (nI (lawM σ))) (if_pos hlm) ?_
                  refine zn_icmp_eq (tgt := 130)  hx hb dX6_nearest_115 (by decide) (by omega) (by omega) (fun c115 => ?_) (fun c115 => ?_)
                  · refine lv_iinc (v := (nI (i + 1))) (lv' := [(4, .int (nI (i + 1))), (6, .int (nI ((σ 0)))), (5, .int (nI (cnt (fun j => !(zcw i j == zcw (lawM σ) j)) (σ 0)))), (3, .int (nI ((nbI (nrF σ (lawM σ)) (lawM σ) i).2))), (2, .int (nI ((nbI (nrF σ (lawM σ)) (lawM σ) i).1))), (0, .ref (A 0)), (1, .int (x))]) hx hb dX6_nearest_130 hl (k := 2) rfl (zinc _) (by decide) rfl (fun ls hl => ?_)
                    refine lv_goto (tgt := 36) hx hb dX6_nearest_133 (by decide) ?_
                    rw [show (.int (nI ((nbI (nrF σ (lawM σ)) (lawM σ) i).2)) : Value) = .int (nI ((nbI (nrF σ (lawM σ)) (lawM σ) (i + 1)).2)) from congrArg _ (congrArg nI (congrArg Prod.snd (nb_no (f := (nrF σ (lawM σ))) (o := lawM σ) (i := i) (fun z => by have z1 := z.1; have z2 : cnt (fun j => !(zcw i j == zcw (lawM σ) j)) (σ 0) < (nbI (nrF σ (lawM σ)) (lawM σ) i).1 := z.2; omega))).symm)] at hl
                    rw [show (.int (nI ((nbI (nrF σ (lawM σ)) (lawM σ) i).1)) : Value) = .int (nI ((nbI (nrF σ (lawM σ)) (lawM σ) (i + 1)).1)) from congrArg _ (congrArg nI (congrArg Prod.fst (nb_no (f := (nrF σ (lawM σ))) (o := lawM σ) (i := i) (fun z => by have z1 := z.1; have z2 : cnt (fun j => !(zcw i j == zcw (lawM σ) j)) (σ 0) < (nbI (nrF σ (lawM σ)) (lawM σ) i).1 := z.2; omega))).symm)] at hl
                    have hP : va_P D vwCl (MX Y A σ hf hn wt wn tmS cdS (wdS σ) sy gp (ddS σ) (ag0 σ i0) (ag1 σ i1) (ag2 σ i2) (insI (trS σ) i3 (σ 0)) (decodeV σ) (decTV σ)) H := hP
                    have hD : va_D FA (MX Y A σ hf hn wt wn tmS cdS (wdS σ) sy gp (ddS σ) (ag0 σ i0) (ag1 σ i1) (ag2 σ i2) (insI (trS σ) i3 (σ 0)) (decodeV σ) (decTV σ)) := MX_dd hD
                    exact ih36 (i + 1) (by omega) (by omega) H locs hP hD hS ls (lv_sub hl [0, 3, 4, 5, 6] rfl)
                  · refine lv_iload hx hb dX6_nearest_118 (lv_at hl 1 rfl) ?_
                    refine lv_iload_n hx hb dX6_nearest_120 rfl (lv_at hl 4 rfl) ?_
                    refine zn_icmp_ge (tgt := 130)  hx hb dX6_nearest_121 (by decide) (by omega) (by omega) (fun c121 => ?_) (fun c121 => ?_)
                    · refine lv_iinc (v := (nI (i + 1))) (lv' := [(4, .int (nI (i + 1))), (6, .int (nI ((σ 0)))), (5, .int (nI (cnt (fun j => !(zcw i j == zcw (lawM σ) j)) (σ 0)))), (3, .int (nI ((nbI (nrF σ (lawM σ)) (lawM σ) i).2))), (2, .int (nI ((nbI (nrF σ (lawM σ)) (lawM σ) i).1))), (0, .ref (A 0)), (1, .int (x))]) hx hb dX6_nearest_130 hl (k := 2) rfl (zinc _) (by decide) rfl (fun ls hl => ?_)
                      refine lv_goto (tgt := 36) hx hb dX6_nearest_133 (by decide) ?_
                      rw [show (.int (nI ((nbI (nrF σ (lawM σ)) (lawM σ) i).2)) : Value) = .int (nI ((nbI (nrF σ (lawM σ)) (lawM σ) (i + 1)).2)) from congrArg _ (congrArg nI (congrArg Prod.snd (nb_no (f := (nrF σ (lawM σ))) (o := lawM σ) (i := i) (fun z => by have z1 := z.1; have z2 : cnt (fun j => !(zcw i j == zcw (lawM σ) j)) (σ 0) < (nbI (nrF σ (lawM σ)) (lawM σ) i).1 := z.2; omega))).symm)] at hl
                      rw [show (.int (nI ((nbI (nrF σ (lawM σ)) (lawM σ) i).1)) : Value) = .int (nI ((nbI (nrF σ (lawM σ)) (lawM σ) (i + 1)).1)) from congrArg _ (congrArg nI (congrArg Prod.fst (nb_no (f := (nrF σ (lawM σ))) (o := lawM σ) (i := i) (fun z => by have z1 := z.1; have z2 : cnt (fun j => !(zcw i j == zcw (lawM σ) j)) (σ 0) < (nbI (nrF σ (lawM σ)) (lawM σ) i).1 := z.2; omega))).symm)] at hl
                      have hP : va_P D vwCl (MX Y A σ hf hn wt wn tmS cdS (wdS σ) sy gp (ddS σ) (ag0 σ i0) (ag1 σ i1) (ag2 σ i2) (insI (trS σ) i3 (σ 0)) (decodeV σ) (decTV σ)) H := hP
                      have hD : va_D FA (MX Y A σ hf hn wt wn tmS cdS (wdS σ) sy gp (ddS σ) (ag0 σ i0) (ag1 σ i1) (ag2 σ i2) (insI (trS σ) i3 (σ 0)) (decodeV σ) (decTV σ)) := MX_dd hD
                      exact ih36 (i + 1) (by omega) (by omega) H locs hP hD hS ls (lv_sub hl [0, 3, 4, 5, 6] rfl)
                    · refine lv_iload hx hb dX6_nearest_124 (lv_at hl 1 rfl) ?_
                      refine lv_istore_n (lv' := [(2, .int (nI (cnt (fun j => !(zcw i j == zcw (lawM σ) j)) (σ 0)))), (6, .int (nI ((σ 0)))), (5, .int (nI (cnt (fun j => !(zcw i j == zcw (lawM σ) j)) (σ 0)))), (4, .int (nI i)), (3, .int (nI ((nbI (nrF σ (lawM σ)) (lawM σ) i).2))), (0, .ref (A 0)), (1, .int (x))]) hx hb dX6_nearest_126 rfl hl (by decide) rfl (fun ls hl => ?_)
                      refine lv_iload hx hb dX6_nearest_127 (lv_at hl 3 rfl) ?_
                      refine lv_istore_n (lv' := [(3, .int (nI i)), (2, .int (nI (cnt (fun j => !(zcw i j == zcw (lawM σ) j)) (σ 0)))), (6, .int (nI ((σ 0)))), (5, .int (nI (cnt (fun j => !(zcw i j == zcw (lawM σ) j)) (σ 0)))), (4, .int (nI i)), (0, .ref (A 0)), (1, .int (x))]) hx hb dX6_nearest_129 rfl hl (by decide) rfl (fun ls hl => ?_)
                      refine lv_iinc (v := (nI (i + 1))) (lv' := [(4, .int (nI (i + 1))), (3, .int (nI i)), (2, .int (nI (cnt (fun j => !(zcw i j == zcw (lawM σ) j)) (σ 0)))), (6, .int (nI ((σ 0)))), (5, .int (nI (cnt (fun j => !(zcw i j == zcw (lawM σ) j)) (σ 0)))), (0, .ref (A 0)), (1, .int (x))]) hx hb dX6_nearest_130 hl (k := 4) rfl (zinc _) (by decide) rfl (fun ls hl => ?_)
                      refine lv_goto (tgt := 36) hx hb dX6_nearest_133 (by decide) ?_
                      rw [show (.int (nI i) : Value) = .int (nI ((nbI (nrF σ (lawM σ)) (lawM σ) (i + 1)).2)) from congrArg _ (congrArg nI (congrArg Prod.snd (nb_yes (f := (nrF σ (lawM σ))) (o := lawM σ) (i := i) (by omega) (show cnt (fun j => !(zcw i j == zcw (lawM σ) j)) (σ 0) < (nbI (nrF σ (lawM σ)) (lawM σ) i).1 by omega))).symm)] at hl
                      rw [show (.int (nI (cnt (fun j => !(zcw i j == zcw (lawM σ) j)) (σ 0))) : Value) = .int (nI ((nbI (nrF σ (lawM σ)) (lawM σ) (i + 1)).1)) from congrArg _ (congrArg nI (congrArg Prod.fst (nb_yes (f := (nrF σ (lawM σ))) (o := lawM σ) (i := i) (by omega) (show cnt (fun j => !(zcw i j == zcw (lawM σ) j)) (σ 0) < (nbI (nrF σ (lawM σ)) (lawM σ) i).1 by omega))).symm)] at hl
                      have hP : va_P D vwCl (MX Y A σ hf hn wt wn tmS cdS (wdS σ) sy gp (ddS σ) (ag0 σ i0) (ag1 σ i1) (ag2 σ i2) (insI (trS σ) i3 (σ 0)) (decodeV σ) (decTV σ)) H := hP
                      have hD : va_D FA (MX Y A σ hf hn wt wn tmS cdS (wdS σ) sy gp (ddS σ) (ag0 σ i0) (ag1 σ i1) (ag2 σ i2) (insI (trS σ) i3 (σ 0)) (decodeV σ) (decTV σ)) := MX_dd hD
                      exact ih36 (i + 1) (by omega) (by omega) H locs hP hD hS ls (lv_sub hl [0, 1, 2, 5, 6] rfl)
                · refine lv_iload hx hb dX6_nearest_62 (lv_at hl 1 rfl) ?_
                  refine lv_aload_n hx hb dX6_nearest_64 rfl (lv_at hl 5 rfl) ?_
                  refine va_get (D := D) (ci := 6) (v := .ref (A 5)) (C := RX6) (T := TX6) (N := 17) hx hb hts qX6_nearest_inX6 hown hK hP 0 rfl rfl 6 (by decide) (hts _ qX6_nearest_Cond_fieldLink_RX6_23_NestedCodesModel_code_B_) (fun _ h9 => h9) rfl dX6_nearest_65 ?_
                  refine lv_bipush (v := (nI 12)) hx hb dX6_nearest_68 (by decide) ?_
                  refine lv_iload hx hb dX6_nearest_70 (lv_at hl 2 rfl) ?_
                  refine zv_imul hx hb (v := (nI (12 * i))) dX6_nearest_72 (pk_mul _ _) ?_
                  refine lv_iload hx hb dX6_nearest_73 (lv_at hl 0 rfl) ?_
                  refine zv_iadd hx hb (v := (nI ((12 * i) + t))) dX6_nearest_75 (nI_add _ _) ?_
                  refine za_b hx hb hK hP 5 (f := fun k9 => nI (cdS k9)) (v := (nI (zcw i t))) rfl (by omega) (by decide) dX6_nearest_76 (congrArg nI (cdS_at i (by omega))) ?_
                  refine lv_aload_n hx hb dX6_nearest_77 rfl (lv_at hl 5 rfl) ?_
                  refine va_get (D := D) (ci := 6) (v := .ref (A 5)) (C := RX6) (T := TX6) (N := 17) hx hb hts qX6_nearest_inX6 hown hK hP 0 rfl rfl 6 (by decide) (hts _ qX6_nearest_Cond_fieldLink_RX6_23_NestedCodesModel_code_B_) (fun _ h9 => h9) rfl dX6_nearest_78 ?_
                  refine lv_bipush (v := (nI 12)) hx hb dX6_nearest_81 (by decide) ?_
                  refine lv_aload_n hx hb dX6_nearest_83 rfl (lv_at hl 5 rfl) ?_
                  refine va_get (D := D) (ci := 6) (v := .int (decodeV σ)) (C := RX6) (T := TX6) (N := 17) hx hb hts qX6_nearest_inX6 hown hK hP 0 rfl rfl 15 (by decide) (hts _ qX6_nearest_Cond_fieldLink_RX6_115_NestedCodesModel_found_I_) (fun _ h9 => h9) rfl dX6_nearest_84 ?_
                  refine zt_i (v := (nI (lawM σ))) (if_pos hlm) ?_
                  refine zv_imul hx hb (v := (nI (12 * (lawM σ)))) dX6_nearest_87 (pk_mul _ _) ?_
                  refine lv_iload hx hb dX6_nearest_88 (lv_at hl 0 rfl) ?_
                  refine zv_iadd hx hb (v := (nI ((12 * (lawM σ)) + t))) dX6_nearest_90 (nI_add _ _) ?_
                  refine za_b hx hb hK hP 5 (f := fun k9 => nI (cdS k9)) (v := (nI (zcw (lawM σ) t))) rfl (by omega) (by decide) dX6_nearest_91 (congrArg nI (cdS_at (lawM σ) (by omega))) ?_
                  have hz1 : zcw i t < 16 := zcw_lt (by omega) (by omega)
                  have hz2 : zcw (lawM σ) t < 16 := zcw_lt (by omega) (by omega)
                  have J100 : W p l e R s m args below meth c H locs 0 0 Q (F0 m 100 ls [.int (nI (b01 (!(zcw i t == zcw (lawM σ) t)))), .int (nI (cnt (fun j => !(zcw i j == zcw (lawM σ) j)) t))]) := by
                    refine zv_iadd hx hb (v := (nI ((cnt (fun j => !(zcw i j == zcw (lawM σ) j)) t) + (b01 (!(zcw i t == zcw (lawM σ) t)))))) dX6_nearest_100 (nI_add _ _) ?_
                    refine lv_istore (lv' := [(5, .int (nI ((cnt (fun j => !(zcw i j == zcw (lawM σ) j)) t) + (b01 (!(zcw i t == zcw (lawM σ) t)))))), (6, .int (nI t)), (4, .int (nI i)), (3, .int (nI ((nbI (nrF σ (lawM σ)) (lawM σ) i).2))), (2, .int (nI ((nbI (nrF σ (lawM σ)) (lawM σ) i).1))), (0, .ref (A 0)), (1, .int (x))]) hx hb dX6_nearest_101 hl (by decide) rfl (fun ls hl => ?_)
                    refine lv_iinc (v := (nI (t + 1))) (lv' := [(6, .int (nI (t + 1))), (5, .int (nI ((cnt (fun j => !(zcw i j == zcw (lawM σ) j)) t) + (b01 (!(zcw i t == zcw (lawM σ) t)))))), (4, .int (nI i)), (3, .int (nI ((nbI (nrF σ (lawM σ)) (lawM σ) i).2))), (2, .int (nI ((nbI (nrF σ (lawM σ)) (lawM σ) i).1))), (0, .ref (A 0)), (1, .int (x))]) hx hb dX6_nearest_103 hl (k := 1) rfl (zinc _) (by decide) rfl (fun ls hl => ?_)
                    refine lv_goto (tgt := 51) hx hb dX6_nearest_106 (by decide) ?_
                    have hP : va_P D vwCl (MX Y A σ hf hn wt wn tmS cdS (wdS σ) sy gp (ddS σ) (ag0 σ i0) (ag1 σ i1) (ag2 σ i2) (insI (trS σ) i3 (σ 0)) (decodeV σ) (decTV σ)) H := hP
                    have hD : va_D FA (MX Y A σ hf hn wt wn tmS cdS (wdS σ) sy gp (ddS σ) (ag0 σ i0) (ag1 σ i1) (ag2 σ i2) (insI (trS σ) i3 (σ 0)) (decodeV σ) (decTV σ)) := MX_dd hD
                    exact ih51 (t + 1) (by omega) (by omega) H locs hP hD hS ls (lv_sub hl [0, 1, 2, 3, 4, 5, 6] rfl)
                  refine zn_icmp_ne (tgt := 99)  hx hb dX6_nearest_92 (by decide) (by omega) (by omega) (fun c92 => ?_) (fun c92 => ?_)
                  · refine lv_iconst (v := (nI 1)) hx hb dX6_nearest_99 (by decide) ?_
                    refine zt_i (v := (nI (b01 (!(zcw i t == zcw (lawM σ) t))))) (by first | exact congrArg nI (by rw [show zcw i t = zcw (lawM σ) t by omega, beq_self_eq_true]; rfl) | exact congrArg nI (by rw [show (zcw i t == zcw (lawM σ) t) = false from beq_false_of_ne (by omega)]; rfl)) ?_
                    exact J100
                  · refine lv_iconst (v := (nI 0)) hx hb dX6_nearest_95 (by decide) ?_
                    refine lv_goto (tgt := 100) hx hb dX6_nearest_96 (by decide) ?_
                    refine zt_i (v := (nI (b01 (!(zcw i t == zcw (lawM σ) t))))) (by first | exact congrArg nI (by rw [show zcw i t = zcw (lawM σ) t by omega, beq_self_eq_true]; rfl) | exact congrArg nI (by rw [show (zcw i t == zcw (lawM σ) t) = false from beq_false_of_ne (by omega)]; rfl)) ?_
                    exact J100
            have hP : va_P D vwCl (MX Y A σ hf hn wt wn tmS cdS (wdS σ) sy gp (ddS σ) (ag0 σ i0) (ag1 σ i1) (ag2 σ i2) (insI (trS σ) i3 (σ 0)) (decodeV σ) (decTV σ)) H := hP
            have hD : va_D FA (MX Y A σ hf hn wt wn tmS cdS (wdS σ) sy gp (ddS σ) (ag0 σ i0) (ag1 σ i1) (ag2 σ i2) (insI (trS σ) i3 (σ 0)) (decodeV σ) (decTV σ)) := MX_dd hD
            exact L51 (σ 0 - 0 + 1) 0 (by omega) (Nat.lt_succ_self _) _ _ hP hD hS ls (lv_sub hl [0, 1, 2, 3, 4, 5, 6] rfl)
      have hP : va_P D vwCl (MX Y A σ hf hn wt wn tmS cdS (wdS σ) sy gp (ddS σ) (ag0 σ i0) (ag1 σ i1) (ag2 σ i2) (insI (trS σ) i3 (σ 0)) (decodeV σ) (decTV σ)) H := hP
      have hD : va_D FA (MX Y A σ hf hn wt wn tmS cdS (wdS σ) sy gp (ddS σ) (ag0 σ i0) (ag1 σ i1) (ag2 σ i2) (insI (trS σ) i3 (σ 0)) (decodeV σ) (decTV σ)) := MX_dd hD
      exact L36 (nMs σ - 0 + 1) 0 (by omega) (Nat.lt_succ_self _) _ _ hP hD hS ls (lv_sub hl [0, 1, 2, 3, 4] rfl)
    · exact absurd c21 (by omega)
  · exact absurd c6 (by omega)
