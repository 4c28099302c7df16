set_option maxHeartbeats 4000000 in
set_option maxRecDepth 100000 in
theorem c_L_holds (l : Launch) (D : va_G) (Y : Nat → ClassId) (A : Nat → Nat) (B : Nat → Nat) (σ : Nat → Nat) (hn : Nat) (h : Nat → Nat → Nat) (r0 : Nat → Nat) (r1 : Nat → Nat) (r2 : Nat → Nat) (r3 : Nat → Nat) (r4 : Nat → Nat) (wt : Nat → Nat) (wn : Nat)   (kσ : zWF σ) (kr : zCon σ r0 r1 r2 r3 r4) : Met l yL_holds wsL_holds ({ frames := 5, cells := 0, slots := 0, locals := 122 } : Room) (va_Pc [.ref (A 0)] (zB D Y (CX Y A B σ hn h (wdS σ) (ddS σ) r0 r1 r2 r3 r4 (σ 0) (pak (itC (wdS σ) σ) (σ 0)) (mkP (fun k9 => decide (k9 < σ 0))) wt wn))) (zR (.int (nI 1))) 0 0 (fun _ => False) := by
  refine zr_of (cc := cL_holds) (maxL := 5) (ret := (some .boolean)) (by decide) rfl (Nat.le_of_ble_eq_true rfl) ?_
  intro p e s m below meth c R args Q hR hx hb hml hr hlk hown hts hK hN hP hQ ls hl
  have hown : s.vm.findClass RL = some m.cls := hown
  have hl : lv_has ls 5 [(0, .ref (A 0))] := hl
  have kw := kσ
  obtain ⟨n3, n12, d1, d3, dn, b4, b10, gl, lm, sn, wl, wnz⟩ := kw
  have pb := zp_b b10
  have pk9 := zp_k d3
  have hpak : pak (itC (wdS σ) σ) (σ 0) < 281474976710656 := Nat.lt_of_lt_of_le (pak_lt (fun j _ => itC_lt _ _ j)) (show 2 ^ (4 * σ 0) ≤ 2 ^ 48 from Nat.pow_le_pow_right (by decide) (by omega))
  have hbar := barS_le kσ
  by_cases hlm : lawM σ < nMs σ
  · obtain ⟨t, g, w, q, ht, hm4, hq4, hg2, hw4, hv1, hv2, hv3, hv4, hv5, hbs, hv7, hv8, hg3, hv9, hva, hvb, hqn⟩ := hold_yes kσ hlm
    have hsb := scS_b n12 (lawM σ)
    refine lv_aload_n hx hb dL_holds_0 rfl (lv_at hl 0 rfl) ?_
    refine zc_r (va_runV (As := []) (rest := []) ⟨hx, hb, hml, hown, hts⟩ (c_X5_decode l D Y A B σ hn h r0 r1 r2 r3 r4 wt wn  kσ kr) (cwV 0 hts gL_holds_X5_decode rfl rfl rfl (by decide +kernel) (by rw [hR]; exact ⟨Nat.le_of_ble_eq_true rfl, Nat.le_of_ble_eq_true rfl⟩)) ⟨zB_blind, va_recv hK hP (ci := 5) (q0 := 0) rfl rfl, zp_r hP hK hN⟩ rfl rfl hl.1 rfl (lv_room (Nat.le_of_ble_eq_true rfl)) dL_holds_1 ⟨Nat.zero_le _, Nat.zero_le _⟩).run ?_
    refine zt_i (v := (nI (lawM σ))) (hv1) ?_
    refine lv_istore_n (lv' := [(1, .int (nI (lawM σ))), (0, .ref (A 0))]) hx hb dL_holds_4 rfl hl (by decide) rfl (fun ls hl => ?_)
    refine lv_aload_n hx hb dL_holds_5 rfl (lv_at hl 1 rfl) ?_
    refine zc_r (va_runV (As := []) (rest := []) ⟨hx, hb, hml, hown, hts⟩ (c_X5_lawful l D Y A B σ hn h r0 r1 r2 r3 r4 wt wn  kσ kr) (cwV 0 hts gL_holds_X5_lawful rfl rfl rfl (by decide +kernel) (by rw [hR]; exact ⟨Nat.le_of_ble_eq_true rfl, Nat.le_of_ble_eq_true rfl⟩)) ⟨zB_blind, va_recv hK hP (ci := 5) (q0 := 0) rfl rfl, zp_r hP hK hN⟩ rfl rfl hl.1 rfl (lv_room (Nat.le_of_ble_eq_true rfl)) dL_holds_6 ⟨Nat.zero_le _, Nat.zero_le _⟩).run ?_
    refine zt_i (v := (nI 1)) (hv2) ?_
    refine lv_istore_n (lv' := [(2, .int (nI 1)), (1, .int (nI (lawM σ))), (0, .ref (A 0))]) hx hb dL_holds_9 rfl hl (by decide) rfl (fun ls hl => ?_)
    refine lv_aload_n hx hb dL_holds_10 rfl (lv_at hl 2 rfl) ?_
    refine zc_r (va_runV (As := []) (rest := []) ⟨hx, hb, hml, hown, hts⟩ (c_X5_decidingTrial l D Y A B σ hn h r0 r1 r2 r3 r4 wt wn  kσ kr) (cwV 0 hts gL_holds_X5_decidingTrial rfl rfl rfl (by decide +kernel) (by rw [hR]; exact ⟨Nat.le_of_ble_eq_true rfl, Nat.le_of_ble_eq_true rfl⟩)) ⟨zB_blind, va_recv hK hP (ci := 5) (q0 := 0) rfl rfl, zp_r hP hK hN⟩ rfl rfl hl.1 rfl (lv_room (Nat.le_of_ble_eq_true rfl)) dL_holds_11 ⟨Nat.zero_le _, Nat.zero_le _⟩).run ?_
    refine zt_i (v := (nI t)) (hv3) ?_
    refine lv_istore_n (lv' := [(3, .int (nI t)), (2, .int (nI 1)), (1, .int (nI (lawM σ))), (0, .ref (A 0))]) hx hb dL_holds_14 rfl hl (by decide) rfl (fun ls hl => ?_)
    refine lv_iload_n hx hb dL_holds_15 rfl (lv_at hl 1 rfl) ?_
    refine zn_if_lt (tgt := 113)  hx hb dL_holds_16 (by decide) (by omega) (fun c16 => ?_) (fun c16 => ?_)
    · exact absurd c16 (by omega)
    · refine lv_iload_n hx hb dL_holds_19 rfl (lv_at hl 1 rfl) ?_
      refine lv_iconst (v := (nI 1)) hx hb dL_holds_20 (by decide) ?_
      refine zn_icmp_gt (tgt := 113) hx hb dL_holds_21 (by decide) (by decide) (by decide) (fun h => absurd h (by decide)) (fun _ => ?_)
      refine lv_iload_n hx hb dL_holds_24 rfl (lv_at hl 2 rfl) ?_
      refine zn_if_lt (tgt := 32)  hx hb dL_holds_25 (by decide) (by omega) (fun c25 => ?_) (fun c25 => ?_)
      · exact absurd c25 (by omega)
      · refine lv_iconst (v := (nI 1)) hx hb dL_holds_28 (by decide) ?_
        refine lv_goto (tgt := 33) hx hb dL_holds_29 (by decide) ?_
        refine lv_iload_n hx hb dL_holds_33 rfl (lv_at hl 0 rfl) ?_
        refine zn_if_lt (tgt := 41)  hx hb dL_holds_34 (by decide) (by omega) (fun c34 => ?_) (fun c34 => ?_)
        · exact absurd c34 (by omega)
        · refine lv_iconst (v := (nI 1)) hx hb dL_holds_37 (by decide) ?_
          refine lv_goto (tgt := 42) hx hb dL_holds_38 (by decide) ?_
          refine zn_icmp_ne (tgt := 113) hx hb dL_holds_42 (by decide) (by decide) (by decide) (fun h => absurd h (by decide)) (fun _ => ?_)
          refine lv_iload_n hx hb dL_holds_45 rfl (lv_at hl 2 rfl) ?_
          refine zn_if_lt (tgt := 109)  hx hb dL_holds_46 (by decide) (by omega) (fun c46 => ?_) (fun c46 => ?_)
          · exact absurd c46 (by omega)
          · refine lv_iload_n hx hb dL_holds_49 rfl (lv_at hl 1 rfl) ?_
            refine lv_iconst (v := (nI 1)) hx hb dL_holds_50 (by decide) ?_
            refine zn_icmp_ne (tgt := 113) hx hb dL_holds_51 (by decide) (by decide) (by decide) (fun h => absurd h (by decide)) (fun _ => ?_)
            refine lv_iload_n hx hb dL_holds_54 rfl (lv_at hl 0 rfl) ?_
            refine lv_aload_n hx hb dL_holds_55 rfl (lv_at hl 3 rfl) ?_
            refine lv_iconst (v := (nI 2)) hx hb dL_holds_56 (by decide) ?_
            refine zc_r (va_runV (As := [.int (nI 2)]) (rest := [.int (nI t)]) ⟨hx, hb, hml, hown, hts⟩ (c_X5_count l D Y A B σ hn h r0 r1 r2 r3 r4 wt wn ((nI 2)) kσ kr) (cwV 1 hts gL_holds_X5_count rfl rfl rfl (by decide +kernel) (by rw [hR]; exact ⟨Nat.le_of_ble_eq_true rfl, Nat.le_of_ble_eq_true rfl⟩)) ⟨zB_blind, va_recv hK hP (ci := 5) (q0 := 0) rfl rfl, zp_r hP hK hN⟩ rfl rfl hl.1 rfl (lv_room (Nat.le_of_ble_eq_true rfl)) dL_holds_57 ⟨Nat.zero_le _, Nat.zero_le _⟩).run ?_
            refine zt_i (v := (nI (σ 0 - σ 1 + 1))) (cV2 _ _ _) ?_
            refine zn_icmp_ge (tgt := 113)  hx hb dL_holds_60 (by decide) (by omega) (by omega) (fun c60 => ?_) (fun c60 => ?_)
            · exact absurd c60 (by omega)
            · refine lv_aload_n hx hb dL_holds_63 rfl (lv_at hl 3 rfl) ?_
              refine lv_iload_n hx hb dL_holds_64 rfl (lv_at hl 0 rfl) ?_
              refine zc_r (va_runV (As := [.int (nI t)]) (rest := []) ⟨hx, hb, hml, hown, hts⟩ (c_X5_trial l D Y A B σ hn h r0 r1 r2 r3 r4 wt wn ((nI t)) kσ kr) (cwV 1 hts gL_holds_X5_trial rfl rfl rfl (by decide +kernel) (by rw [hR]; exact ⟨Nat.le_of_ble_eq_true rfl, Nat.le_of_ble_eq_true rfl⟩)) ⟨zB_blind, va_recv hK hP (ci := 5) (q0 := 0) rfl rfl, zp_r hP hK hN⟩ rfl rfl hl.1 rfl (lv_room (Nat.le_of_ble_eq_true rfl)) dL_holds_65 ⟨Nat.zero_le _, Nat.zero_le _⟩).run ?_
              refine zt_i (v := (nI (lawM σ))) (hv4) ?_
              refine lv_iload_n hx hb dL_holds_68 rfl (lv_at hl 2 rfl) ?_
              refine zn_icmp_ne (tgt := 113)  hx hb dL_holds_69 (by decide) (by omega) (by omega) (fun c69 => ?_) (fun c69 => ?_)
              · exact absurd c69 (by omega)
              · refine lv_aload_n hx hb dL_holds_72 rfl (lv_at hl 3 rfl) ?_
                refine zc_r (va_runV (As := []) (rest := []) ⟨hx, hb, hml, hown, hts⟩ (c_X5_margin l D Y A B σ hn h r0 r1 r2 r3 r4 wt wn  kσ kr) (cwV 0 hts gL_holds_X5_margin rfl rfl rfl (by decide +kernel) (by rw [hR]; exact ⟨Nat.le_of_ble_eq_true rfl, Nat.le_of_ble_eq_true rfl⟩)) ⟨zB_blind, va_recv hK hP (ci := 5) (q0 := 0) rfl rfl, zp_r hP hK hN⟩ rfl rfl hl.1 rfl (lv_room (Nat.le_of_ble_eq_true rfl)) dL_holds_73 ⟨Nat.zero_le _, Nat.zero_le _⟩).run ?_
                refine zt_i (v := (zI (scS σ (lawM σ) - ((barS σ : Nat) : Int)))) (hv5) ?_
                refine zz_if_le (tgt := 113) (a := scS σ (lawM σ) - ((barS σ : Nat) : Int)) hx hb dL_holds_76 (by decide) (zI_toInt (by omega) (by omega)) (fun c76 => ?_) (fun c76 => ?_)
                · exact absurd c76 (by omega)
                · refine lv_aload_n hx hb dL_holds_79 rfl (lv_at hl 3 rfl) ?_
                  refine lv_iload_n hx hb dL_holds_80 rfl (lv_at hl 2 rfl) ?_
                  refine zc_r (va_runV (As := [.int (nI (lawM σ))]) (rest := []) ⟨hx, hb, hml, hown, hts⟩ (c_X5_score l D Y A B σ hn h r0 r1 r2 r3 r4 wt wn ((nI (lawM σ))) kσ kr) (cwV 1 hts gL_holds_X5_score rfl rfl rfl (by decide +kernel) (by rw [hR]; exact ⟨Nat.le_of_ble_eq_true rfl, Nat.le_of_ble_eq_true rfl⟩)) ⟨zB_blind, va_recv hK hP (ci := 5) (q0 := 0) rfl rfl, zp_r hP hK hN⟩ rfl rfl hl.1 rfl (lv_room (Nat.le_of_ble_eq_true rfl)) dL_holds_81 ⟨Nat.zero_le _, Nat.zero_le _⟩).run ?_
                  refine zt_i (v := (zI (scS σ (lawM σ)))) (hv7) ?_
                  refine lv_aload_n hx hb dL_holds_84 rfl (lv_at hl 3 rfl) ?_
                  refine zc_r (va_runV (As := []) (rest := [.int (zI (scS σ (lawM σ)))]) ⟨hx, hb, hml, hown, hts⟩ (c_X5_margin l D Y A B σ hn h r0 r1 r2 r3 r4 wt wn  kσ kr) (cwV 0 hts gL_holds_X5_margin rfl rfl rfl (by decide +kernel) (by rw [hR]; exact ⟨Nat.le_of_ble_eq_true rfl, Nat.le_of_ble_eq_true rfl⟩)) ⟨zB_blind, va_recv hK hP (ci := 5) (q0 := 0) rfl rfl, zp_r hP hK hN⟩ rfl rfl hl.1 rfl (lv_room (Nat.le_of_ble_eq_true rfl)) dL_holds_85 ⟨Nat.zero_le _, Nat.zero_le _⟩).run ?_
                  refine zt_i (v := (zI (scS σ (lawM σ) - ((barS σ : Nat) : Int)))) (hv5) ?_
                  refine lv_aload_n hx hb dL_holds_88 rfl (lv_at hl 3 rfl) ?_
                  refine lv_iconst (v := (nI 4)) hx hb dL_holds_89 (by decide) ?_
                  refine zc_r (va_runV (As := [.int (nI 4)]) (rest := [.int (zI (scS σ (lawM σ) - ((barS σ : Nat) : Int))), .int (zI (scS σ (lawM σ)))]) ⟨hx, hb, hml, hown, hts⟩ (c_X5_count l D Y A B σ hn h r0 r1 r2 r3 r4 wt wn ((nI 4)) kσ kr) (cwV 1 hts gL_holds_X5_count rfl rfl rfl (by decide +kernel) (by rw [hR]; exact ⟨Nat.le_of_ble_eq_true rfl, Nat.le_of_ble_eq_true rfl⟩)) ⟨zB_blind, va_recv hK hP (ci := 5) (q0 := 0) rfl rfl, zp_r hP hK hN⟩ rfl rfl hl.1 rfl (lv_room (Nat.le_of_ble_eq_true rfl)) dL_holds_90 ⟨Nat.zero_le _, Nat.zero_le _⟩).run ?_
                  refine zt_i (v := (nI (ddS σ))) (cV4 _ _ _) ?_
                  refine lv_aload_n hx hb dL_holds_93 rfl (lv_at hl 3 rfl) ?_
                  refine lv_iconst (v := (nI 0)) hx hb dL_holds_94 (by decide) ?_
                  refine zc_r (va_runV (As := [.int (nI 0)]) (rest := [.int (nI (ddS σ)), .int (zI (scS σ (lawM σ) - ((barS σ : Nat) : Int))), .int (zI (scS σ (lawM σ)))]) ⟨hx, hb, hml, hown, hts⟩ (c_X5_count l D Y A B σ hn h r0 r1 r2 r3 r4 wt wn ((nI 0)) kσ kr) (cwV 1 hts gL_holds_X5_count rfl rfl rfl (by decide +kernel) (by rw [hR]; exact ⟨Nat.le_of_ble_eq_true rfl, Nat.le_of_ble_eq_true rfl⟩)) ⟨zB_blind, va_recv hK hP (ci := 5) (q0 := 0) rfl rfl, zp_r hP hK hN⟩ rfl rfl hl.1 rfl (lv_room (Nat.le_of_ble_eq_true rfl)) dL_holds_95 ⟨Nat.zero_le _, Nat.zero_le _⟩).run ?_
                  refine zt_i (v := (nI (σ 0))) (cV0 _ _ _) ?_
                  refine lv_aload_n hx hb dL_holds_98 rfl (lv_at hl 3 rfl) ?_
                  refine lv_iconst (v := (nI 2)) hx hb dL_holds_99 (by decide) ?_
                  refine zc_r (va_runV (As := [.int (nI 2)]) (rest := [.int (nI (σ 0)), .int (nI (ddS σ)), .int (zI (scS σ (lawM σ) - ((barS σ : Nat) : Int))), .int (zI (scS σ (lawM σ)))]) ⟨hx, hb, hml, hown, hts⟩ (c_X5_count l D Y A B σ hn h r0 r1 r2 r3 r4 wt wn ((nI 2)) kσ kr) (cwV 1 hts gL_holds_X5_count rfl rfl rfl (by decide +kernel) (by rw [hR]; exact ⟨Nat.le_of_ble_eq_true rfl, Nat.le_of_ble_eq_true rfl⟩)) ⟨zB_blind, va_recv hK hP (ci := 5) (q0 := 0) rfl rfl, zp_r hP hK hN⟩ rfl rfl hl.1 rfl (lv_room (Nat.le_of_ble_eq_true rfl)) dL_holds_100 ⟨Nat.zero_le _, Nat.zero_le _⟩).run ?_
                  refine zt_i (v := (nI (σ 0 - σ 1 + 1))) (cV2 _ _ _) ?_
                  refine zv_isub hx hb (v := (nI ((σ 0) - (σ 0 - σ 1 + 1)))) dL_holds_103 (pk_sub (by omega)) ?_
                  refine zv_imul hx hb (v := (nI ((ddS σ) * ((σ 0) - (σ 0 - σ 1 + 1))))) dL_holds_104 (pk_mul _ _) ?_
                  refine zt_i (v := (nI (barS σ))) (rfl) ?_
                  refine zv_iadd hx hb (v := (zI ((scS σ (lawM σ) - ((barS σ : Nat) : Int)) + ((barS σ : Nat) : Int)))) dL_holds_105 (by rw [zI_nat]; exact zI_add _ _) ?_
                  refine zz_icmp_ne (tgt := 113) (a := scS σ (lawM σ)) (b := (scS σ (lawM σ) - ((barS σ : Nat) : Int)) + ((barS σ : Nat) : Int)) hx hb dL_holds_106 (by decide) (zI_toInt (by omega) (by omega)) (zI_toInt (by omega) (by omega)) (fun c106 => ?_) (fun c106 => ?_)
                  · exact absurd c106 (by omega)
                  · refine lv_iconst (v := (nI 1)) hx hb dL_holds_109 (by decide) ?_
                    refine lv_goto (tgt := 114) hx hb dL_holds_110 (by decide) ?_
                    refine lv_istore (lv' := [(4, .int (nI 1)), (3, .int (nI t)), (2, .int (nI 1)), (1, .int (nI (lawM σ))), (0, .ref (A 0))]) hx hb dL_holds_114 hl (by decide) rfl (fun ls hl => ?_)
                    refine lv_iload hx hb dL_holds_116 (lv_at hl 0 rfl) ?_
                    refine zn_if_eq (tgt := 182)  hx hb dL_holds_118 (by decide) (by omega) (fun c118 => ?_) (fun c118 => ?_)
                    · exact absurd c118 (by omega)
                    · refine lv_aload_n hx hb dL_holds_121 rfl (lv_at hl 4 rfl) ?_
                      refine zc_r (va_runV (As := []) (rest := []) ⟨hx, hb, hml, hown, hts⟩ (c_X5_isGuaranteed l D Y A B σ hn h r0 r1 r2 r3 r4 wt wn  kσ kr) (cwV 0 hts gL_holds_X5_isGuaranteed rfl rfl rfl (by decide +kernel) (by rw [hR]; exact ⟨Nat.le_of_ble_eq_true rfl, Nat.le_of_ble_eq_true rfl⟩)) ⟨zB_blind, va_recv hK hP (ci := 5) (q0 := 0) rfl rfl, zp_r hP hK hN⟩ rfl rfl hl.1 rfl (lv_room (Nat.le_of_ble_eq_true rfl)) dL_holds_122 ⟨Nat.zero_le _, Nat.zero_le _⟩).run ?_
                      refine zt_i (v := (nI g)) (hv8) ?_
                      refine zn_if_eq (tgt := 136)  hx hb dL_holds_125 (by decide) (by omega) (fun c125 => ?_) (fun c125 => ?_)
                      · refine lv_aload_n hx hb dL_holds_136 rfl (lv_at hl 4 rfl) ?_
                        refine zc_r (va_runV (As := []) (rest := []) ⟨hx, hb, hml, hown, hts⟩ (c_X5_wastedTrials l D Y A B σ hn h r0 r1 r2 r3 r4 wt wn  kσ kr) (cwV 0 hts gL_holds_X5_wastedTrials rfl rfl rfl (by decide +kernel) (by rw [hR]; exact ⟨Nat.le_of_ble_eq_true rfl, Nat.le_of_ble_eq_true rfl⟩)) ⟨zB_blind, va_recv hK hP (ci := 5) (q0 := 0) rfl rfl, zp_r hP hK hN⟩ rfl rfl hl.1 rfl (lv_room (Nat.le_of_ble_eq_true rfl)) dL_holds_137 ⟨Nat.zero_le _, Nat.zero_le _⟩).run ?_
                        refine zt_i (v := (nI w)) (hv9) ?_
                        refine lv_iload_n hx hb dL_holds_140 rfl (lv_at hl 3 rfl) ?_
                        refine zn_if_ge (tgt := 152)  hx hb dL_holds_141 (by decide) (by omega) (fun c141 => ?_) (fun c141 => ?_)
                        · refine lv_iconst (v := (nI 0)) hx hb dL_holds_152 (by decide) ?_
                          refine zn_icmp_lt (tgt := 182)  hx hb dL_holds_153 (by decide) (by omega) (by omega) (fun c153 => ?_) (fun c153 => ?_)
                          · exact absurd c153 (by omega)
                          · refine lv_aload_n hx hb dL_holds_156 rfl (lv_at hl 4 rfl) ?_
                            refine zc_r (va_runV (As := []) (rest := []) ⟨hx, hb, hml, hown, hts⟩ (c_X5_wastedTrials l D Y A B σ hn h r0 r1 r2 r3 r4 wt wn  kσ kr) (cwV 0 hts gL_holds_X5_wastedTrials rfl rfl rfl (by decide +kernel) (by rw [hR]; exact ⟨Nat.le_of_ble_eq_true rfl, Nat.le_of_ble_eq_true rfl⟩)) ⟨zB_blind, va_recv hK hP (ci := 5) (q0 := 0) rfl rfl, zp_r hP hK hN⟩ rfl rfl hl.1 rfl (lv_room (Nat.le_of_ble_eq_true rfl)) dL_holds_157 ⟨Nat.zero_le _, Nat.zero_le _⟩).run ?_
                            refine zt_i (v := (nI w)) (hv9) ?_
                            refine lv_aload_n hx hb dL_holds_160 rfl (lv_at hl 4 rfl) ?_
                            refine lv_iconst (v := (nI 2)) hx hb dL_holds_161 (by decide) ?_
                            refine zc_r (va_runV (As := [.int (nI 2)]) (rest := [.int (nI w)]) ⟨hx, hb, hml, hown, hts⟩ (c_X5_count l D Y A B σ hn h r0 r1 r2 r3 r4 wt wn ((nI 2)) kσ kr) (cwV 1 hts gL_holds_X5_count rfl rfl rfl (by decide +kernel) (by rw [hR]; exact ⟨Nat.le_of_ble_eq_true rfl, Nat.le_of_ble_eq_true rfl⟩)) ⟨zB_blind, va_recv hK hP (ci := 5) (q0 := 0) rfl rfl, zp_r hP hK hN⟩ rfl rfl hl.1 rfl (lv_room (Nat.le_of_ble_eq_true rfl)) dL_holds_162 ⟨Nat.zero_le _, Nat.zero_le _⟩).run ?_
                            refine zt_i (v := (nI (σ 0 - σ 1 + 1))) (cV2 _ _ _) ?_
                            refine lv_iload_n hx hb dL_holds_165 rfl (lv_at hl 3 rfl) ?_
                            refine zn_if_ge (tgt := 173)  hx hb dL_holds_166 (by decide) (by omega) (fun c166 => ?_) (fun c166 => ?_)
                            · refine lv_iconst (v := (nI 1)) hx hb dL_holds_173 (by decide) ?_
                              refine zv_isub hx hb (v := (nI ((σ 0 - σ 1 + 1) - 1))) dL_holds_174 (pk_sub (by omega)) ?_
                              refine zn_icmp_gt (tgt := 182)  hx hb dL_holds_175 (by decide) (by omega) (by omega) (fun c175 => ?_) (fun c175 => ?_)
                              · exact absurd c175 (by omega)
                              · refine lv_iconst (v := (nI 1)) hx hb dL_holds_178 (by decide) ?_
                                refine lv_goto (tgt := 183) hx hb dL_holds_179 (by decide) ?_
                                refine lv_istore (lv' := [(4, .int (nI 1)), (3, .int (nI t)), (2, .int (nI 1)), (1, .int (nI (lawM σ))), (0, .ref (A 0))]) hx hb dL_holds_183 hl (by decide) rfl (fun ls hl => ?_)
                                refine lv_iload hx hb dL_holds_185 (lv_at hl 0 rfl) ?_
                                refine zn_if_eq (tgt := 220)  hx hb dL_holds_187 (by decide) (by omega) (fun c187 => ?_) (fun c187 => ?_)
                                · exact absurd c187 (by omega)
                                · refine lv_iload_n hx hb dL_holds_190 rfl (lv_at hl 3 rfl) ?_
                                  refine zn_if_lt (tgt := 216)  hx hb dL_holds_191 (by decide) (by omega) (fun c191 => ?_) (fun c191 => ?_)
                                  · exact absurd c191 (by omega)
                                  · refine lv_aload_n hx hb dL_holds_194 rfl (lv_at hl 4 rfl) ?_
                                    refine lv_iconst (v := (nI 0)) hx hb dL_holds_195 (by decide) ?_
                                    refine zc_r (va_runV (As := [.int (nI 0)]) (rest := []) ⟨hx, hb, hml, hown, hts⟩ (c_X5_nearest l D Y A B σ hn h r0 r1 r2 r3 r4 wt wn ((nI 0)) kσ kr) (cwV 1 hts gL_holds_X5_nearest rfl rfl rfl (by decide +kernel) (by rw [hR]; exact ⟨Nat.le_of_ble_eq_true rfl, Nat.le_of_ble_eq_true rfl⟩)) ⟨zB_blind, va_recv hK hP (ci := 5) (q0 := 0) rfl rfl, zp_r hP hK hN⟩ rfl rfl hl.1 rfl (lv_room (Nat.le_of_ble_eq_true rfl)) dL_holds_196 ⟨Nat.zero_le _, Nat.zero_le _⟩).run ?_
                                    refine zt_i (v := (nI (σ 0 - σ 1 + 1))) (hva) ?_
                                    refine lv_aload_n hx hb dL_holds_199 rfl (lv_at hl 4 rfl) ?_
                                    refine lv_iconst (v := (nI 2)) hx hb dL_holds_200 (by decide) ?_
                                    refine zc_r (va_runV (As := [.int (nI 2)]) (rest := [.int (nI (σ 0 - σ 1 + 1))]) ⟨hx, hb, hml, hown, hts⟩ (c_X5_count l D Y A B σ hn h r0 r1 r2 r3 r4 wt wn ((nI 2)) kσ kr) (cwV 1 hts gL_holds_X5_count rfl rfl rfl (by decide +kernel) (by rw [hR]; exact ⟨Nat.le_of_ble_eq_true rfl, Nat.le_of_ble_eq_true rfl⟩)) ⟨zB_blind, va_recv hK hP (ci := 5) (q0 := 0) rfl rfl, zp_r hP hK hN⟩ rfl rfl hl.1 rfl (lv_room (Nat.le_of_ble_eq_true rfl)) dL_holds_201 ⟨Nat.zero_le _, Nat.zero_le _⟩).run ?_
                                    refine zt_i (v := (nI (σ 0 - σ 1 + 1))) (cV2 _ _ _) ?_
                                    refine zn_icmp_ne (tgt := 220)  hx hb dL_holds_204 (by decide) (by omega) (by omega) (fun c204 => ?_) (fun c204 => ?_)
                                    · exact absurd c204 (by omega)
                                    · refine lv_aload_n hx hb dL_holds_207 rfl (lv_at hl 4 rfl) ?_
                                      refine lv_iconst (v := (nI 1)) hx hb dL_holds_208 (by decide) ?_
                                      refine zc_r (va_runV (As := [.int (nI 1)]) (rest := []) ⟨hx, hb, hml, hown, hts⟩ (c_X5_nearest l D Y A B σ hn h r0 r1 r2 r3 r4 wt wn ((nI 1)) kσ kr) (cwV 1 hts gL_holds_X5_nearest rfl rfl rfl (by decide +kernel) (by rw [hR]; exact ⟨Nat.le_of_ble_eq_true rfl, Nat.le_of_ble_eq_true rfl⟩)) ⟨zB_blind, va_recv hK hP (ci := 5) (q0 := 0) rfl rfl, zp_r hP hK hN⟩ rfl rfl hl.1 rfl (lv_room (Nat.le_of_ble_eq_true rfl)) dL_holds_209 ⟨Nat.zero_le _, Nat.zero_le _⟩).run ?_
                                      refine zt_i (v := (nI q)) (hvb) ?_
                                      refine lv_iload_n hx hb dL_holds_212 rfl (lv_at hl 3 rfl) ?_
                                      refine zn_icmp_eq (tgt := 220)  hx hb dL_holds_213 (by decide) (by omega) (by omega) (fun c213 => ?_) (fun c213 => ?_)
                                      · exact absurd c213 (by omega)
                                      · refine lv_iconst (v := (nI 1)) hx hb dL_holds_216 (by decide) ?_
                                        refine lv_goto (tgt := 221) hx hb dL_holds_217 (by decide) ?_
                                        exact zr_z hx hb hr hlk hQ dL_holds_221 (rfl) (by first | exact zq_or _ | decide)
                            · exact absurd c166 (by omega)
                        · exact absurd c141 (by omega)
                      · refine lv_iload_n hx hb dL_holds_128 rfl (lv_at hl 3 rfl) ?_
                        refine lv_aload_n hx hb dL_holds_129 rfl (lv_at hl 4 rfl) ?_
                        refine zc_r (va_runV (As := []) (rest := [.int (nI (lawM σ))]) ⟨hx, hb, hml, hown, hts⟩ (c_X5_sent l D Y A B σ hn h r0 r1 r2 r3 r4 wt wn  kσ kr) (cwV 0 hts gL_holds_X5_sent rfl rfl rfl (by decide +kernel) (by rw [hR]; exact ⟨Nat.le_of_ble_eq_true rfl, Nat.le_of_ble_eq_true rfl⟩)) ⟨zB_blind, va_recv hK hP (ci := 5) (q0 := 0) rfl rfl, zp_r hP hK hN⟩ rfl rfl hl.1 rfl (lv_room (Nat.le_of_ble_eq_true rfl)) dL_holds_130 ⟨Nat.zero_le _, Nat.zero_le _⟩).run ?_
                        refine zt_i (v := (nI (σ 8))) (rfl) ?_
                        refine zn_icmp_ne (tgt := 182)  hx hb dL_holds_133 (by decide) (by omega) (by omega) (fun c133 => ?_) (fun c133 => ?_)
                        · exact absurd c133 (by omega)
                        · refine lv_aload_n hx hb dL_holds_136 rfl (lv_at hl 4 rfl) ?_
                          refine zc_r (va_runV (As := []) (rest := []) ⟨hx, hb, hml, hown, hts⟩ (c_X5_wastedTrials l D Y A B σ hn h r0 r1 r2 r3 r4 wt wn  kσ kr) (cwV 0 hts gL_holds_X5_wastedTrials rfl rfl rfl (by decide +kernel) (by rw [hR]; exact ⟨Nat.le_of_ble_eq_true rfl, Nat.le_of_ble_eq_true rfl⟩)) ⟨zB_blind, va_recv hK hP (ci := 5) (q0 := 0) rfl rfl, zp_r hP hK hN⟩ rfl rfl hl.1 rfl (lv_room (Nat.le_of_ble_eq_true rfl)) dL_holds_137 ⟨Nat.zero_le _, Nat.zero_le _⟩).run ?_
                          refine zt_i (v := (nI w)) (hv9) ?_
                          refine lv_iload_n hx hb dL_holds_140 rfl (lv_at hl 3 rfl) ?_
                          refine zn_if_ge (tgt := 152)  hx hb dL_holds_141 (by decide) (by omega) (fun c141 => ?_) (fun c141 => ?_)
                          · refine lv_iconst (v := (nI 0)) hx hb dL_holds_152 (by decide) ?_
                            refine zn_icmp_lt (tgt := 182)  hx hb dL_holds_153 (by decide) (by omega) (by omega) (fun c153 => ?_) (fun c153 => ?_)
                            · exact absurd c153 (by omega)
                            · refine lv_aload_n hx hb dL_holds_156 rfl (lv_at hl 4 rfl) ?_
                              refine zc_r (va_runV (As := []) (rest := []) ⟨hx, hb, hml, hown, hts⟩ (c_X5_wastedTrials l D Y A B σ hn h r0 r1 r2 r3 r4 wt wn  kσ kr) (cwV 0 hts gL_holds_X5_wastedTrials rfl rfl rfl (by decide +kernel) (by rw [hR]; exact ⟨Nat.le_of_ble_eq_true rfl, Nat.le_of_ble_eq_true rfl⟩)) ⟨zB_blind, va_recv hK hP (ci := 5) (q0 := 0) rfl rfl, zp_r hP hK hN⟩ rfl rfl hl.1 rfl (lv_room (Nat.le_of_ble_eq_true rfl)) dL_holds_157 ⟨Nat.zero_le _, Nat.zero_le _⟩).run ?_
                              refine zt_i (v := (nI w)) (hv9) ?_
                              refine lv_aload_n hx hb dL_holds_160 rfl (lv_at hl 4 rfl) ?_
                              refine lv_iconst (v := (nI 2)) hx hb dL_holds_161 (by decide) ?_
                              refine zc_r (va_runV (As := [.int (nI 2)]) (rest := [.int (nI w)]) ⟨hx, hb, hml, hown, hts⟩ (c_X5_count l D Y A B σ hn h r0 r1 r2 r3 r4 wt wn ((nI 2)) kσ kr) (cwV 1 hts gL_holds_X5_count rfl rfl rfl (by decide +kernel) (by rw [hR]; exact ⟨Nat.le_of_ble_eq_true rfl, Nat.le_of_ble_eq_true rfl⟩)) ⟨zB_blind, va_recv hK hP (ci := 5) (q0 := 0) rfl rfl, zp_r hP hK hN⟩ rfl rfl hl.1 rfl (lv_room (Nat.le_of_ble_eq_true rfl)) dL_holds_162 ⟨Nat.zero_le _, Nat.zero_le _⟩).run ?_
                              refine zt_i (v := (nI (σ 0 - σ 1 + 1))) (cV2 _ _ _) ?_
                              refine lv_iload_n hx hb dL_holds_165 rfl (lv_at hl 3 rfl) ?_
                              refine zn_if_ge (tgt := 173)  hx hb dL_holds_166 (by decide) (by omega) (fun c166 => ?_) (fun c166 => ?_)
                              · refine lv_iconst (v := (nI 1)) hx hb dL_holds_173 (by decide) ?_
                                refine zv_isub hx hb (v := (nI ((σ 0 - σ 1 + 1) - 1))) dL_holds_174 (pk_sub (by omega)) ?_
                                refine zn_icmp_gt (tgt := 182)  hx hb dL_holds_175 (by decide) (by omega) (by omega) (fun c175 => ?_) (fun c175 => ?_)
                                · exact absurd c175 (by omega)
                                · refine lv_iconst (v := (nI 1)) hx hb dL_holds_178 (by decide) ?_
                                  refine lv_goto (tgt := 183) hx hb dL_holds_179 (by decide) ?_
                                  refine lv_istore (lv' := [(4, .int (nI 1)), (3, .int (nI t)), (2, .int (nI 1)), (1, .int (nI (lawM σ))), (0, .ref (A 0))]) hx hb dL_holds_183 hl (by decide) rfl (fun ls hl => ?_)
                                  refine lv_iload hx hb dL_holds_185 (lv_at hl 0 rfl) ?_
                                  refine zn_if_eq (tgt := 220)  hx hb dL_holds_187 (by decide) (by omega) (fun c187 => ?_) (fun c187 => ?_)
                                  · exact absurd c187 (by omega)
                                  · refine lv_iload_n hx hb dL_holds_190 rfl (lv_at hl 3 rfl) ?_
                                    refine zn_if_lt (tgt := 216)  hx hb dL_holds_191 (by decide) (by omega) (fun c191 => ?_) (fun c191 => ?_)
                                    · exact absurd c191 (by omega)
                                    · refine lv_aload_n hx hb dL_holds_194 rfl (lv_at hl 4 rfl) ?_
                                      refine lv_iconst (v := (nI 0)) hx hb dL_holds_195 (by decide) ?_
                                      refine zc_r (va_runV (As := [.int (nI 0)]) (rest := []) ⟨hx, hb, hml, hown, hts⟩ (c_X5_nearest l D Y A B σ hn h r0 r1 r2 r3 r4 wt wn ((nI 0)) kσ kr) (cwV 1 hts gL_holds_X5_nearest rfl rfl rfl (by decide +kernel) (by rw [hR]; exact ⟨Nat.le_of_ble_eq_true rfl, Nat.le_of_ble_eq_true rfl⟩)) ⟨zB_blind, va_recv hK hP (ci := 5) (q0 := 0) rfl rfl, zp_r hP hK hN⟩ rfl rfl hl.1 rfl (lv_room (Nat.le_of_ble_eq_true rfl)) dL_holds_196 ⟨Nat.zero_le _, Nat.zero_le _⟩).run ?_
                                      refine zt_i (v := (nI (σ 0 - σ 1 + 1))) (hva) ?_
                                      refine lv_aload_n hx hb dL_holds_199 rfl (lv_at hl 4 rfl) ?_
                                      refine lv_iconst (v := (nI 2)) hx hb dL_holds_200 (by decide) ?_
                                      refine zc_r (va_runV (As := [.int (nI 2)]) (rest := [.int (nI (σ 0 - σ 1 + 1))]) ⟨hx, hb, hml, hown, hts⟩ (c_X5_count l D Y A B σ hn h r0 r1 r2 r3 r4 wt wn ((nI 2)) kσ kr) (cwV 1 hts gL_holds_X5_count rfl rfl rfl (by decide +kernel) (by rw [hR]; exact ⟨Nat.le_of_ble_eq_true rfl, Nat.le_of_ble_eq_true rfl⟩)) ⟨zB_blind, va_recv hK hP (ci := 5) (q0 := 0) rfl rfl, zp_r hP hK hN⟩ rfl rfl hl.1 rfl (lv_room (Nat.le_of_ble_eq_true rfl)) dL_holds_201 ⟨Nat.zero_le _, Nat.zero_le _⟩).run ?_
                                      refine zt_i (v := (nI (σ 0 - σ 1 + 1))) (cV2 _ _ _) ?_
                                      refine zn_icmp_ne (tgt := 220)  hx hb dL_holds_204 (by decide) (by omega) (by omega) (fun c204 => ?_) (fun c204 => ?_)
                                      · exact absurd c204 (by omega)
                                      · refine lv_aload_n hx hb dL_holds_207 rfl (lv_at hl 4 rfl) ?_
                                        refine lv_iconst (v := (nI 1)) hx hb dL_holds_208 (by decide) ?_
                                        refine zc_r (va_runV (As := [.int (nI 1)]) (rest := []) ⟨hx, hb, hml, hown, hts⟩ (c_X5_nearest l D Y A B σ hn h r0 r1 r2 r3 r4 wt wn ((nI 1)) kσ kr) (cwV 1 hts gL_holds_X5_nearest rfl rfl rfl (by decide +kernel) (by rw [hR]; exact ⟨Nat.le_of_ble_eq_true rfl, Nat.le_of_ble_eq_true rfl⟩)) ⟨zB_blind, va_recv hK hP (ci := 5) (q0 := 0) rfl rfl, zp_r hP hK hN⟩ rfl rfl hl.1 rfl (lv_room (Nat.le_of_ble_eq_true rfl)) dL_holds_209 ⟨Nat.zero_le _, Nat.zero_le _⟩).run ?_
                                        refine zt_i (v := (nI q)) (hvb) ?_
                                        refine lv_iload_n hx hb dL_holds_212 rfl (lv_at hl 3 rfl) ?_
                                        refine zn_icmp_eq (tgt := 220)  hx hb dL_holds_213 (by decide) (by omega) (by omega) (fun c213 => ?_) (fun c213 => ?_)
                                        · exact absurd c213 (by omega)
                                        · refine lv_iconst (v := (nI 1)) hx hb dL_holds_216 (by decide) ?_
                                          refine lv_goto (tgt := 221) hx hb dL_holds_217 (by decide) ?_
                                          exact zr_z hx hb hr hlk hQ dL_holds_221 (rfl) (by first | exact zq_or _ | decide)
                              · exact absurd c166 (by omega)
                          · exact absurd c141 (by omega)
  · obtain ⟨hv1, hv2, hv3, hv8, hv9⟩ := hold_no kσ hlm
    refine lv_aload_n hx hb dL_holds_0 rfl (lv_at hl 0 rfl) ?_
    refine zc_r (va_runV (As := []) (rest := []) ⟨hx, hb, hml, hown, hts⟩ (c_X5_decode l D Y A B σ hn h r0 r1 r2 r3 r4 wt wn  kσ kr) (cwV 0 hts gL_holds_X5_decode rfl rfl rfl (by decide +kernel) (by rw [hR]; exact ⟨Nat.le_of_ble_eq_true rfl, Nat.le_of_ble_eq_true rfl⟩)) ⟨zB_blind, va_recv hK hP (ci := 5) (q0 := 0) rfl rfl, zp_r hP hK hN⟩ rfl rfl hl.1 rfl (lv_room (Nat.le_of_ble_eq_true rfl)) dL_holds_1 ⟨Nat.zero_le _, Nat.zero_le _⟩).run ?_
    refine zt_i (v := (-1004)) (hv1) ?_
    refine lv_istore_n (lv' := [(1, .int (-1004)), (0, .ref (A 0))]) hx hb dL_holds_4 rfl hl (by decide) rfl (fun ls hl => ?_)
    refine lv_aload_n hx hb dL_holds_5 rfl (lv_at hl 1 rfl) ?_
    refine zc_r (va_runV (As := []) (rest := []) ⟨hx, hb, hml, hown, hts⟩ (c_X5_lawful l D Y A B σ hn h r0 r1 r2 r3 r4 wt wn  kσ kr) (cwV 0 hts gL_holds_X5_lawful rfl rfl rfl (by decide +kernel) (by rw [hR]; exact ⟨Nat.le_of_ble_eq_true rfl, Nat.le_of_ble_eq_true rfl⟩)) ⟨zB_blind, va_recv hK hP (ci := 5) (q0 := 0) rfl rfl, zp_r hP hK hN⟩ rfl rfl hl.1 rfl (lv_room (Nat.le_of_ble_eq_true rfl)) dL_holds_6 ⟨Nat.zero_le _, Nat.zero_le _⟩).run ?_
    refine zt_i (v := (nI 0)) (hv2) ?_
    refine lv_istore_n (lv' := [(2, .int (nI 0)), (1, .int (-1004)), (0, .ref (A 0))]) hx hb dL_holds_9 rfl hl (by decide) rfl (fun ls hl => ?_)
    refine lv_aload_n hx hb dL_holds_10 rfl (lv_at hl 2 rfl) ?_
    refine zc_r (va_runV (As := []) (rest := []) ⟨hx, hb, hml, hown, hts⟩ (c_X5_decidingTrial l D Y A B σ hn h r0 r1 r2 r3 r4 wt wn  kσ kr) (cwV 0 hts gL_holds_X5_decidingTrial rfl rfl rfl (by decide +kernel) (by rw [hR]; exact ⟨Nat.le_of_ble_eq_true rfl, Nat.le_of_ble_eq_true rfl⟩)) ⟨zB_blind, va_recv hK hP (ci := 5) (q0 := 0) rfl rfl, zp_r hP hK hN⟩ rfl rfl hl.1 rfl (lv_room (Nat.le_of_ble_eq_true rfl)) dL_holds_11 ⟨Nat.zero_le _, Nat.zero_le _⟩).run ?_
    refine zt_i (v := (-1004)) (hv3) ?_
    refine lv_istore_n (lv' := [(3, .int (-1004)), (2, .int (nI 0)), (1, .int (-1004)), (0, .ref (A 0))]) hx hb dL_holds_14 rfl hl (by decide) rfl (fun ls hl => ?_)
    refine lv_iload_n hx hb dL_holds_15 rfl (lv_at hl 1 rfl) ?_
    refine zn_if_lt (tgt := 113)  hx hb dL_holds_16 (by decide) (by omega) (fun c16 => ?_) (fun c16 => ?_)
    · exact absurd c16 (by omega)
    · refine lv_iload_n hx hb dL_holds_19 rfl (lv_at hl 1 rfl) ?_
      refine lv_iconst (v := (nI 1)) hx hb dL_holds_20 (by decide) ?_
      refine zn_icmp_gt (tgt := 113) hx hb dL_holds_21 (by decide) (by decide) (by decide) (fun h => absurd h (by decide)) (fun _ => ?_)
      refine lv_iload_n hx hb dL_holds_24 rfl (lv_at hl 2 rfl) ?_
      refine zz_if_lt (tgt := 32) (a := -1004) hx hb dL_holds_25 (by decide) (by decide) (fun c25 => ?_) (fun c25 => ?_)
      · refine lv_iconst (v := (nI 0)) hx hb dL_holds_32 (by decide) ?_
        refine lv_iload_n hx hb dL_holds_33 rfl (lv_at hl 0 rfl) ?_
        refine zz_if_lt (tgt := 41) (a := -1004) hx hb dL_holds_34 (by decide) (by decide) (fun c34 => ?_) (fun c34 => ?_)
        · refine lv_iconst (v := (nI 0)) hx hb dL_holds_41 (by decide) ?_
          refine zn_icmp_ne (tgt := 113) hx hb dL_holds_42 (by decide) (by decide) (by decide) (fun h => absurd h (by decide)) (fun _ => ?_)
          refine lv_iload_n hx hb dL_holds_45 rfl (lv_at hl 2 rfl) ?_
          refine zz_if_lt (tgt := 109) (a := -1004) hx hb dL_holds_46 (by decide) (by decide) (fun c46 => ?_) (fun c46 => ?_)
          · refine lv_iconst (v := (nI 1)) hx hb dL_holds_109 (by decide) ?_
            refine lv_goto (tgt := 114) hx hb dL_holds_110 (by decide) ?_
            refine lv_istore (lv' := [(4, .int (nI 1)), (3, .int (-1004)), (2, .int (nI 0)), (1, .int (-1004)), (0, .ref (A 0))]) hx hb dL_holds_114 hl (by decide) rfl (fun ls hl => ?_)
            refine lv_iload hx hb dL_holds_116 (lv_at hl 0 rfl) ?_
            refine zn_if_eq (tgt := 182)  hx hb dL_holds_118 (by decide) (by omega) (fun c118 => ?_) (fun c118 => ?_)
            · exact absurd c118 (by omega)
            · refine lv_aload_n hx hb dL_holds_121 rfl (lv_at hl 4 rfl) ?_
              refine zc_r (va_runV (As := []) (rest := []) ⟨hx, hb, hml, hown, hts⟩ (c_X5_isGuaranteed l D Y A B σ hn h r0 r1 r2 r3 r4 wt wn  kσ kr) (cwV 0 hts gL_holds_X5_isGuaranteed rfl rfl rfl (by decide +kernel) (by rw [hR]; exact ⟨Nat.le_of_ble_eq_true rfl, Nat.le_of_ble_eq_true rfl⟩)) ⟨zB_blind, va_recv hK hP (ci := 5) (q0 := 0) rfl rfl, zp_r hP hK hN⟩ rfl rfl hl.1 rfl (lv_room (Nat.le_of_ble_eq_true rfl)) dL_holds_122 ⟨Nat.zero_le _, Nat.zero_le _⟩).run ?_
              refine zt_i (v := (nI 0)) (hv8) ?_
              refine zn_if_eq (tgt := 136)  hx hb dL_holds_125 (by decide) (by omega) (fun c125 => ?_) (fun c125 => ?_)
              · refine lv_aload_n hx hb dL_holds_136 rfl (lv_at hl 4 rfl) ?_
                refine zc_r (va_runV (As := []) (rest := []) ⟨hx, hb, hml, hown, hts⟩ (c_X5_wastedTrials l D Y A B σ hn h r0 r1 r2 r3 r4 wt wn  kσ kr) (cwV 0 hts gL_holds_X5_wastedTrials rfl rfl rfl (by decide +kernel) (by rw [hR]; exact ⟨Nat.le_of_ble_eq_true rfl, Nat.le_of_ble_eq_true rfl⟩)) ⟨zB_blind, va_recv hK hP (ci := 5) (q0 := 0) rfl rfl, zp_r hP hK hN⟩ rfl rfl hl.1 rfl (lv_room (Nat.le_of_ble_eq_true rfl)) dL_holds_137 ⟨Nat.zero_le _, Nat.zero_le _⟩).run ?_
                refine zt_i (v := (nI (σ 0 - σ 1 + 1))) (hv9) ?_
                refine lv_iload_n hx hb dL_holds_140 rfl (lv_at hl 3 rfl) ?_
                refine zz_if_ge (tgt := 152) (a := -1004) hx hb dL_holds_141 (by decide) (by decide) (fun c141 => ?_) (fun c141 => ?_)
                · exact absurd c141 (by omega)
                · refine lv_aload_n hx hb dL_holds_144 rfl (lv_at hl 4 rfl) ?_
                  refine lv_iconst (v := (nI 2)) hx hb dL_holds_145 (by decide) ?_
                  refine zc_r (va_runV (As := [.int (nI 2)]) (rest := [.int (nI (σ 0 - σ 1 + 1))]) ⟨hx, hb, hml, hown, hts⟩ (c_X5_count l D Y A B σ hn h r0 r1 r2 r3 r4 wt wn ((nI 2)) kσ kr) (cwV 1 hts gL_holds_X5_count rfl rfl rfl (by decide +kernel) (by rw [hR]; exact ⟨Nat.le_of_ble_eq_true rfl, Nat.le_of_ble_eq_true rfl⟩)) ⟨zB_blind, va_recv hK hP (ci := 5) (q0 := 0) rfl rfl, zp_r hP hK hN⟩ rfl rfl hl.1 rfl (lv_room (Nat.le_of_ble_eq_true rfl)) dL_holds_146 ⟨Nat.zero_le _, Nat.zero_le _⟩).run ?_
                  refine zt_i (v := (nI (σ 0 - σ 1 + 1))) (cV2 _ _ _) ?_
                  refine lv_goto (tgt := 153) hx hb dL_holds_149 (by decide) ?_
                  refine zn_icmp_lt (tgt := 182)  hx hb dL_holds_153 (by decide) (by omega) (by omega) (fun c153 => ?_) (fun c153 => ?_)
                  · exact absurd c153 (by omega)
                  · refine lv_aload_n hx hb dL_holds_156 rfl (lv_at hl 4 rfl) ?_
                    refine zc_r (va_runV (As := []) (rest := []) ⟨hx, hb, hml, hown, hts⟩ (c_X5_wastedTrials l D Y A B σ hn h r0 r1 r2 r3 r4 wt wn  kσ kr) (cwV 0 hts gL_holds_X5_wastedTrials rfl rfl rfl (by decide +kernel) (by rw [hR]; exact ⟨Nat.le_of_ble_eq_true rfl, Nat.le_of_ble_eq_true rfl⟩)) ⟨zB_blind, va_recv hK hP (ci := 5) (q0 := 0) rfl rfl, zp_r hP hK hN⟩ rfl rfl hl.1 rfl (lv_room (Nat.le_of_ble_eq_true rfl)) dL_holds_157 ⟨Nat.zero_le _, Nat.zero_le _⟩).run ?_
                    refine zt_i (v := (nI (σ 0 - σ 1 + 1))) (hv9) ?_
                    refine lv_aload_n hx hb dL_holds_160 rfl (lv_at hl 4 rfl) ?_
                    refine lv_iconst (v := (nI 2)) hx hb dL_holds_161 (by decide) ?_
                    refine zc_r (va_runV (As := [.int (nI 2)]) (rest := [.int (nI (σ 0 - σ 1 + 1))]) ⟨hx, hb, hml, hown, hts⟩ (c_X5_count l D Y A B σ hn h r0 r1 r2 r3 r4 wt wn ((nI 2)) kσ kr) (cwV 1 hts gL_holds_X5_count rfl rfl rfl (by decide +kernel) (by rw [hR]; exact ⟨Nat.le_of_ble_eq_true rfl, Nat.le_of_ble_eq_true rfl⟩)) ⟨zB_blind, va_recv hK hP (ci := 5) (q0 := 0) rfl rfl, zp_r hP hK hN⟩ rfl rfl hl.1 rfl (lv_room (Nat.le_of_ble_eq_true rfl)) dL_holds_162 ⟨Nat.zero_le _, Nat.zero_le _⟩).run ?_
                    refine zt_i (v := (nI (σ 0 - σ 1 + 1))) (cV2 _ _ _) ?_
                    refine lv_iload_n hx hb dL_holds_165 rfl (lv_at hl 3 rfl) ?_
                    refine zz_if_ge (tgt := 173) (a := -1004) hx hb dL_holds_166 (by decide) (by decide) (fun c166 => ?_) (fun c166 => ?_)
                    · exact absurd c166 (by omega)
                    · refine lv_iconst (v := (nI 0)) hx hb dL_holds_169 (by decide) ?_
                      refine lv_goto (tgt := 174) hx hb dL_holds_170 (by decide) ?_
                      refine zv_isub hx hb (v := (nI ((σ 0 - σ 1 + 1) - 0))) dL_holds_174 (pk_sub (by omega)) ?_
                      refine zn_icmp_gt (tgt := 182)  hx hb dL_holds_175 (by decide) (by omega) (by omega) (fun c175 => ?_) (fun c175 => ?_)
                      · exact absurd c175 (by omega)
                      · refine lv_iconst (v := (nI 1)) hx hb dL_holds_178 (by decide) ?_
                        refine lv_goto (tgt := 183) hx hb dL_holds_179 (by decide) ?_
                        refine lv_istore (lv' := [(4, .int (nI 1)), (3, .int (-1004)), (2, .int (nI 0)), (1, .int (-1004)), (0, .ref (A 0))]) hx hb dL_holds_183 hl (by decide) rfl (fun ls hl => ?_)
                        refine lv_iload hx hb dL_holds_185 (lv_at hl 0 rfl) ?_
                        refine zn_if_eq (tgt := 220)  hx hb dL_holds_187 (by decide) (by omega) (fun c187 => ?_) (fun c187 => ?_)
                        · exact absurd c187 (by omega)
                        · refine lv_iload_n hx hb dL_holds_190 rfl (lv_at hl 3 rfl) ?_
                          refine zz_if_lt (tgt := 216) (a := -1004) hx hb dL_holds_191 (by decide) (by decide) (fun c191 => ?_) (fun c191 => ?_)
                          · refine lv_iconst (v := (nI 1)) hx hb dL_holds_216 (by decide) ?_
                            refine lv_goto (tgt := 221) hx hb dL_holds_217 (by decide) ?_
                            exact zr_z hx hb hr hlk hQ dL_holds_221 (rfl) (by first | exact zq_or _ | decide)
                          · exact absurd c191 (by omega)
              · exact absurd c125 (by omega)
          · exact absurd c46 (by omega)
        · exact absurd c34 (by omega)
      · exact absurd c25 (by omega)
