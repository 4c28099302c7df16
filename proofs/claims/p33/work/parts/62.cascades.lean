set_option maxHeartbeats 4000000 in
set_option maxRecDepth 100000 in
theorem c_L_cascades (l : Launch) (D : va_G) (Y : Nat → ClassId) (A : Nat → Nat) (B : Nat → Nat) (σ : Nat → Nat) (hn : Nat) (h : Nat → Nat → Nat) (r0 : Nat → Nat) (r1 : Nat → Nat) (r2 : Nat → Nat) (r3 : Nat → Nat) (r4 : Nat → Nat) (wt : Nat → Nat) (wn : Nat)   (kσ : zWF σ) (kr : zCon σ r0 r1 r2 r3 r4) (khn : hn ≤ 6) (kh : ∀ i, i < hn → zWF (h i)) : Met l yL_cascades wsL_cascades ({ frames := 7, cells := 0, slots := 0, locals := 157 } : Room) (va_Pc [.ref (A 0)] (zBw D Y (CX Y A B σ hn h (wdS σ) (ddS σ) r0 r1 r2 r3 r4 (σ 0) (pak (itC (wdS σ) σ) (σ 0)) (mkP (fun k9 => decide (k9 < σ 0))) wt wn))) (zEh (some (.int (nI 1))) (zS5 D Y A σ wt wn) (zA (CX Y A B σ hn h (wdS σ) (ddS σ) r0 r1 r2 r3 r4 (σ 0) (pak (itC (wdS σ) σ) (σ 0)) (mkP (fun k9 => decide (k9 < σ 0))) wt wn))) 0 0 (zA (CX Y A B σ hn h (wdS σ) (ddS σ) r0 r1 r2 r3 r4 (σ 0) (pak (itC (wdS σ) σ) (σ 0)) (mkP (fun k9 => decide (k9 < σ 0))) wt wn)) := by
  refine ze_of (cc := cL_cascades) (maxL := 5) (ret := (some .boolean)) (by decide) rfl (Nat.le_of_ble_eq_true rfl) ?_
  intro p e s m below meth c R args Q FA hR hx hb hml hr hlk hown hts hK hN hQ hP hD hS ls hl
  have hown : s.vm.findClass RL = some m.cls := hown
  have hl : lv_has ls 5 [(0, .ref (A 0))] := hl
  have hS := hS
  have kw := kσ
  obtain ⟨n3, n12, d1, d3, dn, b4, b10, gl, lm, sn, wl, wnz⟩ := kw
  have pb := zp_b b10
  have pk9 := zp_k d3
  have hpak : pak (itC (wdS σ) σ) (σ 0) < 281474976710656 := Nat.lt_of_lt_of_le (pak_lt (fun j _ => itC_lt _ _ j)) (show 2 ^ (4 * σ 0) ≤ 2 ^ 48 from Nat.pow_le_pow_right (by decide) (by omega))
  have hbar := barS_le kσ
  suffices hgo : ∀ (H : Heap) (locs : List Loc), va_P D vwCl (CX Y A B σ hn h (wdS σ) (ddS σ) r0 r1 r2 r3 r4 (σ 0) (pak (itC (wdS σ) σ) (σ 0)) (mkP (fun k9 => decide (k9 < σ 0))) wt wn) H → va_S FA s.heap H locs → W p l e R s m args below meth c H locs 0 0 Q (F0 m 0 ls []) from hgo _ _ hP hS
  clear hP hS
  intro H locs hP hS
  by_cases hlm : lawM σ < nMs σ
  · have hm4 : lawM σ < 4096 := Nat.lt_of_lt_of_le hlm (k_4096 kσ)
    have hv1 : decodeV σ = nI (lawM σ) := if_pos hlm
    refine lv_aload_n hx hb dL_cascades_0 rfl (lv_at hl 0 rfl) ?_
    refine zc_r (va_runV (As := []) (rest := []) ⟨hx, hb, hml, hown, hts⟩ (c_X5_decode l D Y A B σ hn h r0 r1 r2 r3 r4 wt wn  kσ kr) (cwV 0 hts gL_cascades_X5_decode rfl rfl rfl (by decide +kernel) (by rw [hR]; exact ⟨Nat.le_of_ble_eq_true rfl, Nat.le_of_ble_eq_true rfl⟩)) ⟨zB_blind, va_recv hK hP (ci := 5) (q0 := 0) rfl rfl, zp_r hP hK hN⟩ rfl rfl hl.1 rfl (lv_room (Nat.le_of_ble_eq_true rfl)) dL_cascades_1 ⟨Nat.zero_le _, Nat.zero_le _⟩).run ?_
    refine zt_i (v := (nI (lawM σ))) (hv1) ?_
    refine lv_istore_n (lv' := [(1, .int (nI (lawM σ))), (0, .ref (A 0))]) hx hb dL_cascades_4 rfl hl (by decide) rfl (fun ls hl => ?_)
    refine lv_aload_n hx hb dL_cascades_5 rfl (lv_at hl 1 rfl) ?_
    refine zc_r (va_runV (As := []) (rest := []) ⟨hx, hb, hml, hown, hts⟩ (c_X5_sent l D Y A B σ hn h r0 r1 r2 r3 r4 wt wn  kσ kr) (cwV 0 hts gL_cascades_X5_sent rfl rfl rfl (by decide +kernel) (by rw [hR]; exact ⟨Nat.le_of_ble_eq_true rfl, Nat.le_of_ble_eq_true rfl⟩)) ⟨zB_blind, va_recv hK hP (ci := 5) (q0 := 0) rfl rfl, zp_r hP hK hN⟩ rfl rfl hl.1 rfl (lv_room (Nat.le_of_ble_eq_true rfl)) dL_cascades_6 ⟨Nat.zero_le _, Nat.zero_le _⟩).run ?_
    refine zt_i (v := (nI (σ 8))) (rfl) ?_
    refine lv_istore_n (lv' := [(2, .int (nI (σ 8))), (1, .int (nI (lawM σ))), (0, .ref (A 0))]) hx hb dL_cascades_9 rfl hl (by decide) rfl (fun ls hl => ?_)
    refine lv_aload_n hx hb dL_cascades_10 rfl (lv_at hl 2 rfl) ?_
    refine zc_w (va_runV (As := []) (rest := []) ⟨hx, hb, hml, hown, hts⟩ (c_X5_sendCascade l D Y A B σ hn h r0 r1 r2 r3 r4 wt wn  kσ kr khn hlm) (cwV 0 hts gL_cascades_X5_sendCascade rfl rfl rfl (by decide +kernel) (by rw [hR]; exact ⟨Nat.le_of_ble_eq_true rfl, Nat.le_of_ble_eq_true rfl⟩)) ⟨zBw_blind, va_recv hK hP (ci := 5) (q0 := 0) rfl rfl, zp_w hP hD hK hN⟩ rfl rfl hl.1 rfl (lv_room (Nat.le_of_ble_eq_true rfl)) dL_cascades_11 ⟨Nat.zero_le _, Nat.zero_le _⟩).run hS (zA_of hD) (fun H locs hP hz hk hS => ?_)
    have hD : va_D FA (CX Y A (recB B hn) (casI σ (lawM σ) (σ 0)) (recN hn) (recH h hn σ) (wdS (casI σ (lawM σ) (σ 0))) (ddS (casI σ (lawM σ) (σ 0))) (ag0 (casI σ (lawM σ) (σ 0)) r0) (ag1 (casI σ (lawM σ) (σ 0)) r1) (ag2 (casI σ (lawM σ) (σ 0)) r2) (ag3 (casI σ (lawM σ) (σ 0)) r2 r3) (ag4 (casI σ (lawM σ) (σ 0)) r2 r4) ((casI σ (lawM σ) (σ 0)) 0) (pak (itC (wdS (casI σ (lawM σ) (σ 0))) (casI σ (lawM σ) (σ 0))) ((casI σ (lawM σ) (σ 0)) 0)) (mkP (fun k9 => decide (k9 < (casI σ (lawM σ) (σ 0)) 0))) wt wn) := CX_dd (CX_recD hD)
    have hlm2 : lawM σ < 2 ^ (4 * σ 1) := hlm
    have kτ := zWF_cas kσ (i := σ 0) hlm2
    have hcn := casN_le σ (lawM σ) (σ 0)
    have hcw := cas_wr0 σ (lawM σ)
    have h8 := cas_8 σ (lawM σ)
    have h0 := cas_0 σ (lawM σ)
    have hlt := lostN_le (casI σ (lawM σ) (σ 0)) ((casI σ (lawM σ) (σ 0)) 0)
    have hrN := rec_N khn
    refine zt_i (v := (nI (casN σ (lawM σ) (σ 0)))) (rfl) ?_
    refine lv_istore_n (lv' := [(3, .int (nI (casN σ (lawM σ) (σ 0)))), (2, .int (nI (σ 8))), (1, .int (nI (lawM σ))), (0, .ref (A 0))]) hx hb dL_cascades_14 rfl hl (by decide) rfl (fun ls hl => ?_)
    refine lv_iload_n hx hb dL_cascades_15 rfl (lv_at hl 2 rfl) ?_
    refine zn_if_ge (tgt := 40)  hx hb dL_cascades_16 (by decide) (by omega) (fun c16 => ?_) (fun c16 => ?_)
    · refine lv_iload_n hx hb dL_cascades_40 rfl (lv_at hl 0 rfl) ?_
      refine zn_if_lt (tgt := 92)  hx hb dL_cascades_41 (by decide) (by omega) (fun c41 => ?_) (fun c41 => ?_)
      · exact absurd c41 (by omega)
      · refine lv_aload_n hx hb dL_cascades_44 rfl (lv_at hl 3 rfl) ?_
        refine zc_r (va_runV (As := []) (rest := []) ⟨hx, hb, hml, hown, hts⟩ (c_X5_sent l D Y A (recB B hn) (casI σ (lawM σ) (σ 0)) (recN hn) (recH h hn σ) (ag0 (casI σ (lawM σ) (σ 0)) r0) (ag1 (casI σ (lawM σ) (σ 0)) r1) (ag2 (casI σ (lawM σ) (σ 0)) r2) (ag3 (casI σ (lawM σ) (σ 0)) r2 r3) (ag4 (casI σ (lawM σ) (σ 0)) r2 r4) wt wn  kτ (zCon_ag _ _ _ _ _ _)) (cwV 0 hts gL_cascades_X5_sent rfl rfl rfl (by decide +kernel) (by rw [hR]; exact ⟨Nat.le_of_ble_eq_true rfl, Nat.le_of_ble_eq_true rfl⟩)) ⟨zB_blind, va_recv hK hP (ci := 5) (q0 := 0) rfl rfl, zp_r hP hK hN⟩ rfl rfl hl.1 rfl (lv_room (Nat.le_of_ble_eq_true rfl)) dL_cascades_45 ⟨Nat.zero_le _, Nat.zero_le _⟩).run ?_
        refine zt_i (v := (nI ((casI σ (lawM σ) (σ 0)) 8))) (rfl) ?_
        refine lv_iload_n hx hb dL_cascades_48 rfl (lv_at hl 2 rfl) ?_
        refine zn_icmp_ne (tgt := 92)  hx hb dL_cascades_49 (by decide) (by omega) (by omega) (fun c49 => ?_) (fun c49 => ?_)
        · exact absurd c49 (by omega)
        · refine lv_aload_n hx hb dL_cascades_52 rfl (lv_at hl 3 rfl) ?_
          refine lv_bipush (v := (nI 7)) hx hb dL_cascades_53 (by decide) ?_
          refine zc_r (va_runV (As := [.int (nI 7)]) (rest := []) ⟨hx, hb, hml, hown, hts⟩ (c_X5_count l D Y A (recB B hn) (casI σ (lawM σ) (σ 0)) (recN hn) (recH h hn σ) (ag0 (casI σ (lawM σ) (σ 0)) r0) (ag1 (casI σ (lawM σ) (σ 0)) r1) (ag2 (casI σ (lawM σ) (σ 0)) r2) (ag3 (casI σ (lawM σ) (σ 0)) r2 r3) (ag4 (casI σ (lawM σ) (σ 0)) r2 r4) wt wn ((nI 7)) kτ (zCon_ag _ _ _ _ _ _)) (cwV 1 hts gL_cascades_X5_count rfl rfl rfl (by decide +kernel) (by rw [hR]; exact ⟨Nat.le_of_ble_eq_true rfl, Nat.le_of_ble_eq_true rfl⟩)) ⟨zB_blind, va_recv hK hP (ci := 5) (q0 := 0) rfl rfl, zp_r hP hK hN⟩ rfl rfl hl.1 rfl (lv_room (Nat.le_of_ble_eq_true rfl)) dL_cascades_55 ⟨Nat.zero_le _, Nat.zero_le _⟩).run ?_
          refine zt_i (v := (nI (lostN (casI σ (lawM σ) (σ 0)) ((casI σ (lawM σ) (σ 0)) 0)))) (cV7 _ _ _) ?_
          refine zn_if_gt (tgt := 71)  hx hb dL_cascades_58 (by decide) (by omega) (fun c58 => ?_) (fun c58 => ?_)
          · refine lv_aload_n hx hb dL_cascades_71 rfl (lv_at hl 3 rfl) ?_
            refine lv_bipush (v := (nI 8)) hx hb dL_cascades_72 (by decide) ?_
            refine zc_r (va_runV (As := [.int (nI 8)]) (rest := []) ⟨hx, hb, hml, hown, hts⟩ (c_X5_count l D Y A (recB B hn) (casI σ (lawM σ) (σ 0)) (recN hn) (recH h hn σ) (ag0 (casI σ (lawM σ) (σ 0)) r0) (ag1 (casI σ (lawM σ) (σ 0)) r1) (ag2 (casI σ (lawM σ) (σ 0)) r2) (ag3 (casI σ (lawM σ) (σ 0)) r2 r3) (ag4 (casI σ (lawM σ) (σ 0)) r2 r4) wt wn ((nI 8)) kτ (zCon_ag _ _ _ _ _ _)) (cwV 1 hts gL_cascades_X5_count rfl rfl rfl (by decide +kernel) (by rw [hR]; exact ⟨Nat.le_of_ble_eq_true rfl, Nat.le_of_ble_eq_true rfl⟩)) ⟨zB_blind, va_recv hK hP (ci := 5) (q0 := 0) rfl rfl, zp_r hP hK hN⟩ rfl rfl hl.1 rfl (lv_room (Nat.le_of_ble_eq_true rfl)) dL_cascades_74 ⟨Nat.zero_le _, Nat.zero_le _⟩).run ?_
            refine zt_i (v := (nI (wrN (wdS (casI σ (lawM σ) (σ 0))) (casI σ (lawM σ) (σ 0)) ((casI σ (lawM σ) (σ 0)) 0)))) (cV8 _ _ _) ?_
            refine lv_iload_n hx hb dL_cascades_77 rfl (lv_at hl 0 rfl) ?_
            refine zn_icmp_gt (tgt := 92)  hx hb dL_cascades_78 (by decide) (by omega) (by omega) (fun c78 => ?_) (fun c78 => ?_)
            · exact absurd c78 (by omega)
            · refine lv_aload_n hx hb dL_cascades_81 rfl (lv_at hl 3 rfl) ?_
              refine zc_r (va_runS (As := [.ref (A 0)]) (rest := []) ⟨hx, hb, hml, hown, hts⟩ (c_L_holds l D Y A (recB B hn) (casI σ (lawM σ) (σ 0)) (recN hn) (recH h hn σ) (ag0 (casI σ (lawM σ) (σ 0)) r0) (ag1 (casI σ (lawM σ) (σ 0)) r1) (ag2 (casI σ (lawM σ) (σ 0)) r2) (ag3 (casI σ (lawM σ) (σ 0)) r2 r3) (ag4 (casI σ (lawM σ) (σ 0)) r2 r4) wt wn  kτ (zCon_ag _ _ _ _ _ _)) (va_cwS 1 hts gL_cascades_L_holds rfl rfl rfl (by decide +kernel) (by rw [hR]; exact ⟨Nat.le_of_ble_eq_true rfl, Nat.le_of_ble_eq_true rfl⟩)) ⟨zB_blind, zp_r hP hK hN⟩ rfl rfl hl.1 rfl (lv_room (Nat.le_of_ble_eq_true rfl)) dL_cascades_82 ⟨Nat.zero_le _, Nat.zero_le _⟩).run ?_
              refine zn_if_eq (tgt := 92)  hx hb dL_cascades_85 (by decide) (by omega) (fun c85 => ?_) (fun c85 => ?_)
              · exact absurd c85 (by omega)
              · refine lv_iconst (v := (nI 1)) hx hb dL_cascades_88 (by decide) ?_
                refine lv_goto (tgt := 93) hx hb dL_cascades_89 (by decide) ?_
                refine lv_istore (lv' := [(4, .int (nI 1)), (3, .int (nI (casN σ (lawM σ) (σ 0)))), (2, .int (nI (σ 8))), (1, .int (nI (lawM σ))), (0, .ref (A 0))]) hx hb dL_cascades_93 hl (by decide) rfl (fun ls hl => ?_)
                refine lv_iload hx hb dL_cascades_95 (lv_at hl 0 rfl) ?_
                refine zn_if_eq (tgt := 127)  hx hb dL_cascades_97 (by decide) (by omega) (fun c97 => ?_) (fun c97 => ?_)
                · exact absurd c97 (by omega)
                · refine lv_aload_n hx hb dL_cascades_100 rfl (lv_at hl 4 rfl) ?_
                  refine zc_w (va_runV (As := []) (rest := []) ⟨hx, hb, hml, hown, hts⟩ (c_X5_undoT l D Y A (recB B hn) (casI σ (lawM σ) (σ 0)) (recN hn) (recH h hn σ) (ag0 (casI σ (lawM σ) (σ 0)) r0) (ag1 (casI σ (lawM σ) (σ 0)) r1) (ag2 (casI σ (lawM σ) (σ 0)) r2) (ag3 (casI σ (lawM σ) (σ 0)) r2 r3) (ag4 (casI σ (lawM σ) (σ 0)) r2 r4) wt wn σ kτ (zCon_ag _ _ _ _ _ _) (rec_N khn).1 (rec_N khn).2.1 rec_top kσ) (cwV 0 hts gL_cascades_X5_undo rfl rfl rfl (by decide +kernel) (by rw [hR]; exact ⟨Nat.le_of_ble_eq_true rfl, Nat.le_of_ble_eq_true rfl⟩)) ⟨zBw_blind, va_recv hK hP (ci := 5) (q0 := 0) rfl rfl, zp_w hP hD hK hN⟩ rfl rfl hl.1 rfl (lv_room (Nat.le_of_ble_eq_true rfl)) dL_cascades_101 ⟨Nat.zero_le _, Nat.zero_le _⟩).run hS (zA_of hD) (fun H locs hP hz hk hS => ?_)
                  have hD : va_D FA (CX Y A (recB B hn) σ ((recN hn) - 1) (recH h hn σ) (wdS σ) (ddS σ) (ag0 σ (ag0 (casI σ (lawM σ) (σ 0)) r0)) (ag1 σ (ag1 (casI σ (lawM σ) (σ 0)) r1)) (ag2 σ (ag2 (casI σ (lawM σ) (σ 0)) r2)) (ag3 σ (ag2 (casI σ (lawM σ) (σ 0)) r2) (ag3 (casI σ (lawM σ) (σ 0)) r2 r3)) (ag4 σ (ag2 (casI σ (lawM σ) (σ 0)) r2) (ag4 (casI σ (lawM σ) (σ 0)) r2 r4)) (σ 0) (pak (itC (wdS σ) σ) (σ 0)) (mkP (fun k9 => decide (k9 < σ 0))) wt wn) := CX_dd hD
                  refine zn_if_lt (tgt := 127)  hx hb dL_cascades_104 (by decide) (by omega) (fun c104 => ?_) (fun c104 => ?_)
                  · exact absurd c104 (by omega)
                  · refine lv_aload_n hx hb dL_cascades_107 rfl (lv_at hl 4 rfl) ?_
                    refine zc_r (va_runV (As := []) (rest := []) ⟨hx, hb, hml, hown, hts⟩ (c_X5_sent l D Y A (recB B hn) σ ((recN hn) - 1) (recH h hn σ) (ag0 σ (ag0 (casI σ (lawM σ) (σ 0)) r0)) (ag1 σ (ag1 (casI σ (lawM σ) (σ 0)) r1)) (ag2 σ (ag2 (casI σ (lawM σ) (σ 0)) r2)) (ag3 σ (ag2 (casI σ (lawM σ) (σ 0)) r2) (ag3 (casI σ (lawM σ) (σ 0)) r2 r3)) (ag4 σ (ag2 (casI σ (lawM σ) (σ 0)) r2) (ag4 (casI σ (lawM σ) (σ 0)) r2 r4)) wt wn  kσ (zCon_ag _ _ _ _ _ _)) (cwV 0 hts gL_cascades_X5_sent rfl rfl rfl (by decide +kernel) (by rw [hR]; exact ⟨Nat.le_of_ble_eq_true rfl, Nat.le_of_ble_eq_true rfl⟩)) ⟨zB_blind, va_recv hK hP (ci := 5) (q0 := 0) rfl rfl, zp_r hP hK hN⟩ rfl rfl hl.1 rfl (lv_room (Nat.le_of_ble_eq_true rfl)) dL_cascades_108 ⟨Nat.zero_le _, Nat.zero_le _⟩).run ?_
                    refine zt_i (v := (nI (σ 8))) (rfl) ?_
                    refine lv_iload_n hx hb dL_cascades_111 rfl (lv_at hl 2 rfl) ?_
                    refine zn_icmp_ne (tgt := 127)  hx hb dL_cascades_112 (by decide) (by omega) (by omega) (fun c112 => ?_) (fun c112 => ?_)
                    · exact absurd c112 (by omega)
                    · refine lv_aload_n hx hb dL_cascades_115 rfl (lv_at hl 4 rfl) ?_
                      refine zc_r (va_runV (As := []) (rest := []) ⟨hx, hb, hml, hown, hts⟩ (c_X5_decode l D Y A (recB B hn) σ ((recN hn) - 1) (recH h hn σ) (ag0 σ (ag0 (casI σ (lawM σ) (σ 0)) r0)) (ag1 σ (ag1 (casI σ (lawM σ) (σ 0)) r1)) (ag2 σ (ag2 (casI σ (lawM σ) (σ 0)) r2)) (ag3 σ (ag2 (casI σ (lawM σ) (σ 0)) r2) (ag3 (casI σ (lawM σ) (σ 0)) r2 r3)) (ag4 σ (ag2 (casI σ (lawM σ) (σ 0)) r2) (ag4 (casI σ (lawM σ) (σ 0)) r2 r4)) wt wn  kσ (zCon_ag _ _ _ _ _ _)) (cwV 0 hts gL_cascades_X5_decode rfl rfl rfl (by decide +kernel) (by rw [hR]; exact ⟨Nat.le_of_ble_eq_true rfl, Nat.le_of_ble_eq_true rfl⟩)) ⟨zB_blind, va_recv hK hP (ci := 5) (q0 := 0) rfl rfl, zp_r hP hK hN⟩ rfl rfl hl.1 rfl (lv_room (Nat.le_of_ble_eq_true rfl)) dL_cascades_116 ⟨Nat.zero_le _, Nat.zero_le _⟩).run ?_
                      refine zt_i (v := (nI (lawM σ))) (hv1) ?_
                      refine lv_iload_n hx hb dL_cascades_119 rfl (lv_at hl 3 rfl) ?_
                      refine zn_icmp_ne (tgt := 127)  hx hb dL_cascades_120 (by decide) (by omega) (by omega) (fun c120 => ?_) (fun c120 => ?_)
                      · exact absurd c120 (by omega)
                      · refine lv_iconst (v := (nI 1)) hx hb dL_cascades_123 (by decide) ?_
                        refine lv_goto (tgt := 128) hx hb dL_cascades_124 (by decide) ?_
                        exact ze_z hx hb hr hlk hQ hS dL_cascades_128 (rfl) (by first | exact zq_or _ | decide) (⟨recB B hn, (recN hn) - 1, recH h hn σ, ag0 σ (ag0 (casI σ (lawM σ) (σ 0)) r0), ag1 σ (ag1 (casI σ (lawM σ) (σ 0)) r1), ag2 σ (ag2 (casI σ (lawM σ) (σ 0)) r2), ag3 σ (ag2 (casI σ (lawM σ) (σ 0)) r2) (ag3 (casI σ (lawM σ) (σ 0)) r2 r3), ag4 σ (ag2 (casI σ (lawM σ) (σ 0)) r2) (ag4 (casI σ (lawM σ) (σ 0)) r2 r4), ⟨kσ, zCon_ag _ _ _ _ _ _, (by omega), fun q9 h9 => rec_K kσ kh q9 (by omega)⟩, hP, hD⟩)
          · have hcw3 := hcw.2 (by omega)
            refine lv_aload_n hx hb dL_cascades_61 rfl (lv_at hl 3 rfl) ?_
            refine lv_bipush (v := (nI 8)) hx hb dL_cascades_62 (by decide) ?_
            refine zc_r (va_runV (As := [.int (nI 8)]) (rest := []) ⟨hx, hb, hml, hown, hts⟩ (c_X5_count l D Y A (recB B hn) (casI σ (lawM σ) (σ 0)) (recN hn) (recH h hn σ) (ag0 (casI σ (lawM σ) (σ 0)) r0) (ag1 (casI σ (lawM σ) (σ 0)) r1) (ag2 (casI σ (lawM σ) (σ 0)) r2) (ag3 (casI σ (lawM σ) (σ 0)) r2 r3) (ag4 (casI σ (lawM σ) (σ 0)) r2 r4) wt wn ((nI 8)) kτ (zCon_ag _ _ _ _ _ _)) (cwV 1 hts gL_cascades_X5_count rfl rfl rfl (by decide +kernel) (by rw [hR]; exact ⟨Nat.le_of_ble_eq_true rfl, Nat.le_of_ble_eq_true rfl⟩)) ⟨zB_blind, va_recv hK hP (ci := 5) (q0 := 0) rfl rfl, zp_r hP hK hN⟩ rfl rfl hl.1 rfl (lv_room (Nat.le_of_ble_eq_true rfl)) dL_cascades_64 ⟨Nat.zero_le _, Nat.zero_le _⟩).run ?_
            refine zt_i (v := (nI (wrN (wdS (casI σ (lawM σ) (σ 0))) (casI σ (lawM σ) (σ 0)) ((casI σ (lawM σ) (σ 0)) 0)))) (cV8 _ _ _) ?_
            refine lv_iload_n hx hb dL_cascades_67 rfl (lv_at hl 0 rfl) ?_
            refine zn_icmp_ne (tgt := 92)  hx hb dL_cascades_68 (by decide) (by omega) (by omega) (fun c68 => ?_) (fun c68 => ?_)
            · exact absurd c68 (by omega)
            · refine lv_aload_n hx hb dL_cascades_71 rfl (lv_at hl 3 rfl) ?_
              refine lv_bipush (v := (nI 8)) hx hb dL_cascades_72 (by decide) ?_
              refine zc_r (va_runV (As := [.int (nI 8)]) (rest := []) ⟨hx, hb, hml, hown, hts⟩ (c_X5_count l D Y A (recB B hn) (casI σ (lawM σ) (σ 0)) (recN hn) (recH h hn σ) (ag0 (casI σ (lawM σ) (σ 0)) r0) (ag1 (casI σ (lawM σ) (σ 0)) r1) (ag2 (casI σ (lawM σ) (σ 0)) r2) (ag3 (casI σ (lawM σ) (σ 0)) r2 r3) (ag4 (casI σ (lawM σ) (σ 0)) r2 r4) wt wn ((nI 8)) kτ (zCon_ag _ _ _ _ _ _)) (cwV 1 hts gL_cascades_X5_count rfl rfl rfl (by decide +kernel) (by rw [hR]; exact ⟨Nat.le_of_ble_eq_true rfl, Nat.le_of_ble_eq_true rfl⟩)) ⟨zB_blind, va_recv hK hP (ci := 5) (q0 := 0) rfl rfl, zp_r hP hK hN⟩ rfl rfl hl.1 rfl (lv_room (Nat.le_of_ble_eq_true rfl)) dL_cascades_74 ⟨Nat.zero_le _, Nat.zero_le _⟩).run ?_
              refine zt_i (v := (nI (wrN (wdS (casI σ (lawM σ) (σ 0))) (casI σ (lawM σ) (σ 0)) ((casI σ (lawM σ) (σ 0)) 0)))) (cV8 _ _ _) ?_
              refine lv_iload_n hx hb dL_cascades_77 rfl (lv_at hl 0 rfl) ?_
              refine zn_icmp_gt (tgt := 92)  hx hb dL_cascades_78 (by decide) (by omega) (by omega) (fun c78 => ?_) (fun c78 => ?_)
              · exact absurd c78 (by omega)
              · refine lv_aload_n hx hb dL_cascades_81 rfl (lv_at hl 3 rfl) ?_
                refine zc_r (va_runS (As := [.ref (A 0)]) (rest := []) ⟨hx, hb, hml, hown, hts⟩ (c_L_holds l D Y A (recB B hn) (casI σ (lawM σ) (σ 0)) (recN hn) (recH h hn σ) (ag0 (casI σ (lawM σ) (σ 0)) r0) (ag1 (casI σ (lawM σ) (σ 0)) r1) (ag2 (casI σ (lawM σ) (σ 0)) r2) (ag3 (casI σ (lawM σ) (σ 0)) r2 r3) (ag4 (casI σ (lawM σ) (σ 0)) r2 r4) wt wn  kτ (zCon_ag _ _ _ _ _ _)) (va_cwS 1 hts gL_cascades_L_holds rfl rfl rfl (by decide +kernel) (by rw [hR]; exact ⟨Nat.le_of_ble_eq_true rfl, Nat.le_of_ble_eq_true rfl⟩)) ⟨zB_blind, zp_r hP hK hN⟩ rfl rfl hl.1 rfl (lv_room (Nat.le_of_ble_eq_true rfl)) dL_cascades_82 ⟨Nat.zero_le _, Nat.zero_le _⟩).run ?_
                refine zn_if_eq (tgt := 92)  hx hb dL_cascades_85 (by decide) (by omega) (fun c85 => ?_) (fun c85 => ?_)
                · exact absurd c85 (by omega)
                · refine lv_iconst (v := (nI 1)) hx hb dL_cascades_88 (by decide) ?_
                  refine lv_goto (tgt := 93) hx hb dL_cascades_89 (by decide) ?_
                  refine lv_istore (lv' := [(4, .int (nI 1)), (3, .int (nI (casN σ (lawM σ) (σ 0)))), (2, .int (nI (σ 8))), (1, .int (nI (lawM σ))), (0, .ref (A 0))]) hx hb dL_cascades_93 hl (by decide) rfl (fun ls hl => ?_)
                  refine lv_iload hx hb dL_cascades_95 (lv_at hl 0 rfl) ?_
                  refine zn_if_eq (tgt := 127)  hx hb dL_cascades_97 (by decide) (by omega) (fun c97 => ?_) (fun c97 => ?_)
                  · exact absurd c97 (by omega)
                  · refine lv_aload_n hx hb dL_cascades_100 rfl (lv_at hl 4 rfl) ?_
                    refine zc_w (va_runV (As := []) (rest := []) ⟨hx, hb, hml, hown, hts⟩ (c_X5_undoT l D Y A (recB B hn) (casI σ (lawM σ) (σ 0)) (recN hn) (recH h hn σ) (ag0 (casI σ (lawM σ) (σ 0)) r0) (ag1 (casI σ (lawM σ) (σ 0)) r1) (ag2 (casI σ (lawM σ) (σ 0)) r2) (ag3 (casI σ (lawM σ) (σ 0)) r2 r3) (ag4 (casI σ (lawM σ) (σ 0)) r2 r4) wt wn σ kτ (zCon_ag _ _ _ _ _ _) (rec_N khn).1 (rec_N khn).2.1 rec_top kσ) (cwV 0 hts gL_cascades_X5_undo rfl rfl rfl (by decide +kernel) (by rw [hR]; exact ⟨Nat.le_of_ble_eq_true rfl, Nat.le_of_ble_eq_true rfl⟩)) ⟨zBw_blind, va_recv hK hP (ci := 5) (q0 := 0) rfl rfl, zp_w hP hD hK hN⟩ rfl rfl hl.1 rfl (lv_room (Nat.le_of_ble_eq_true rfl)) dL_cascades_101 ⟨Nat.zero_le _, Nat.zero_le _⟩).run hS (zA_of hD) (fun H locs hP hz hk hS => ?_)
                    have hD : va_D FA (CX Y A (recB B hn) σ ((recN hn) - 1) (recH h hn σ) (wdS σ) (ddS σ) (ag0 σ (ag0 (casI σ (lawM σ) (σ 0)) r0)) (ag1 σ (ag1 (casI σ (lawM σ) (σ 0)) r1)) (ag2 σ (ag2 (casI σ (lawM σ) (σ 0)) r2)) (ag3 σ (ag2 (casI σ (lawM σ) (σ 0)) r2) (ag3 (casI σ (lawM σ) (σ 0)) r2 r3)) (ag4 σ (ag2 (casI σ (lawM σ) (σ 0)) r2) (ag4 (casI σ (lawM σ) (σ 0)) r2 r4)) (σ 0) (pak (itC (wdS σ) σ) (σ 0)) (mkP (fun k9 => decide (k9 < σ 0))) wt wn) := CX_dd hD
                    refine zn_if_lt (tgt := 127)  hx hb dL_cascades_104 (by decide) (by omega) (fun c104 => ?_) (fun c104 => ?_)
                    · exact absurd c104 (by omega)
                    · refine lv_aload_n hx hb dL_cascades_107 rfl (lv_at hl 4 rfl) ?_
                      refine zc_r (va_runV (As := []) (rest := []) ⟨hx, hb, hml, hown, hts⟩ (c_X5_sent l D Y A (recB B hn) σ ((recN hn) - 1) (recH h hn σ) (ag0 σ (ag0 (casI σ (lawM σ) (σ 0)) r0)) (ag1 σ (ag1 (casI σ (lawM σ) (σ 0)) r1)) (ag2 σ (ag2 (casI σ (lawM σ) (σ 0)) r2)) (ag3 σ (ag2 (casI σ (lawM σ) (σ 0)) r2) (ag3 (casI σ (lawM σ) (σ 0)) r2 r3)) (ag4 σ (ag2 (casI σ (lawM σ) (σ 0)) r2) (ag4 (casI σ (lawM σ) (σ 0)) r2 r4)) wt wn  kσ (zCon_ag _ _ _ _ _ _)) (cwV 0 hts gL_cascades_X5_sent rfl rfl rfl (by decide +kernel) (by rw [hR]; exact ⟨Nat.le_of_ble_eq_true rfl, Nat.le_of_ble_eq_true rfl⟩)) ⟨zB_blind, va_recv hK hP (ci := 5) (q0 := 0) rfl rfl, zp_r hP hK hN⟩ rfl rfl hl.1 rfl (lv_room (Nat.le_of_ble_eq_true rfl)) dL_cascades_108 ⟨Nat.zero_le _, Nat.zero_le _⟩).run ?_
                      refine zt_i (v := (nI (σ 8))) (rfl) ?_
                      refine lv_iload_n hx hb dL_cascades_111 rfl (lv_at hl 2 rfl) ?_
                      refine zn_icmp_ne (tgt := 127)  hx hb dL_cascades_112 (by decide) (by omega) (by omega) (fun c112 => ?_) (fun c112 => ?_)
                      · exact absurd c112 (by omega)
                      · refine lv_aload_n hx hb dL_cascades_115 rfl (lv_at hl 4 rfl) ?_
                        refine zc_r (va_runV (As := []) (rest := []) ⟨hx, hb, hml, hown, hts⟩ (c_X5_decode l D Y A (recB B hn) σ ((recN hn) - 1) (recH h hn σ) (ag0 σ (ag0 (casI σ (lawM σ) (σ 0)) r0)) (ag1 σ (ag1 (casI σ (lawM σ) (σ 0)) r1)) (ag2 σ (ag2 (casI σ (lawM σ) (σ 0)) r2)) (ag3 σ (ag2 (casI σ (lawM σ) (σ 0)) r2) (ag3 (casI σ (lawM σ) (σ 0)) r2 r3)) (ag4 σ (ag2 (casI σ (lawM σ) (σ 0)) r2) (ag4 (casI σ (lawM σ) (σ 0)) r2 r4)) wt wn  kσ (zCon_ag _ _ _ _ _ _)) (cwV 0 hts gL_cascades_X5_decode rfl rfl rfl (by decide +kernel) (by rw [hR]; exact ⟨Nat.le_of_ble_eq_true rfl, Nat.le_of_ble_eq_true rfl⟩)) ⟨zB_blind, va_recv hK hP (ci := 5) (q0 := 0) rfl rfl, zp_r hP hK hN⟩ rfl rfl hl.1 rfl (lv_room (Nat.le_of_ble_eq_true rfl)) dL_cascades_116 ⟨Nat.zero_le _, Nat.zero_le _⟩).run ?_
                        refine zt_i (v := (nI (lawM σ))) (hv1) ?_
                        refine lv_iload_n hx hb dL_cascades_119 rfl (lv_at hl 3 rfl) ?_
                        refine zn_icmp_ne (tgt := 127)  hx hb dL_cascades_120 (by decide) (by omega) (by omega) (fun c120 => ?_) (fun c120 => ?_)
                        · exact absurd c120 (by omega)
                        · refine lv_iconst (v := (nI 1)) hx hb dL_cascades_123 (by decide) ?_
                          refine lv_goto (tgt := 128) hx hb dL_cascades_124 (by decide) ?_
                          exact ze_z hx hb hr hlk hQ hS dL_cascades_128 (rfl) (by first | exact zq_or _ | decide) (⟨recB B hn, (recN hn) - 1, recH h hn σ, ag0 σ (ag0 (casI σ (lawM σ) (σ 0)) r0), ag1 σ (ag1 (casI σ (lawM σ) (σ 0)) r1), ag2 σ (ag2 (casI σ (lawM σ) (σ 0)) r2), ag3 σ (ag2 (casI σ (lawM σ) (σ 0)) r2) (ag3 (casI σ (lawM σ) (σ 0)) r2 r3), ag4 σ (ag2 (casI σ (lawM σ) (σ 0)) r2) (ag4 (casI σ (lawM σ) (σ 0)) r2 r4), ⟨kσ, zCon_ag _ _ _ _ _ _, (by omega), fun q9 h9 => rec_K kσ kh q9 (by omega)⟩, hP, hD⟩)
    · exact absurd c16 (by omega)
  · have hv1 : decodeV σ = -1004 := if_neg hlm
    refine lv_aload_n hx hb dL_cascades_0 rfl (lv_at hl 0 rfl) ?_
    refine zc_r (va_runV (As := []) (rest := []) ⟨hx, hb, hml, hown, hts⟩ (c_X5_decode l D Y A B σ hn h r0 r1 r2 r3 r4 wt wn  kσ kr) (cwV 0 hts gL_cascades_X5_decode rfl rfl rfl (by decide +kernel) (by rw [hR]; exact ⟨Nat.le_of_ble_eq_true rfl, Nat.le_of_ble_eq_true rfl⟩)) ⟨zB_blind, va_recv hK hP (ci := 5) (q0 := 0) rfl rfl, zp_r hP hK hN⟩ rfl rfl hl.1 rfl (lv_room (Nat.le_of_ble_eq_true rfl)) dL_cascades_1 ⟨Nat.zero_le _, Nat.zero_le _⟩).run ?_
    refine zt_i (v := (-1004)) (hv1) ?_
    refine lv_istore_n (lv' := [(1, .int (-1004)), (0, .ref (A 0))]) hx hb dL_cascades_4 rfl hl (by decide) rfl (fun ls hl => ?_)
    refine lv_aload_n hx hb dL_cascades_5 rfl (lv_at hl 1 rfl) ?_
    refine zc_r (va_runV (As := []) (rest := []) ⟨hx, hb, hml, hown, hts⟩ (c_X5_sent l D Y A B σ hn h r0 r1 r2 r3 r4 wt wn  kσ kr) (cwV 0 hts gL_cascades_X5_sent rfl rfl rfl (by decide +kernel) (by rw [hR]; exact ⟨Nat.le_of_ble_eq_true rfl, Nat.le_of_ble_eq_true rfl⟩)) ⟨zB_blind, va_recv hK hP (ci := 5) (q0 := 0) rfl rfl, zp_r hP hK hN⟩ rfl rfl hl.1 rfl (lv_room (Nat.le_of_ble_eq_true rfl)) dL_cascades_6 ⟨Nat.zero_le _, Nat.zero_le _⟩).run ?_
    refine zt_i (v := (nI (σ 8))) (rfl) ?_
    refine lv_istore_n (lv' := [(2, .int (nI (σ 8))), (1, .int (-1004)), (0, .ref (A 0))]) hx hb dL_cascades_9 rfl hl (by decide) rfl (fun ls hl => ?_)
    refine lv_aload_n hx hb dL_cascades_10 rfl (lv_at hl 2 rfl) ?_
    refine zc_r (va_runV (As := []) (rest := []) ⟨hx, hb, hml, hown, hts⟩ (c_X5_sendCascade_not l D Y A B σ hn h r0 r1 r2 r3 r4 wt wn  kσ kr (by omega)) (cwV 0 hts gL_cascades_X5_sendCascade rfl rfl rfl (by decide +kernel) (by rw [hR]; exact ⟨Nat.le_of_ble_eq_true rfl, Nat.le_of_ble_eq_true rfl⟩)) ⟨zB_blind, va_recv hK hP (ci := 5) (q0 := 0) rfl rfl, zp_r hP hK hN⟩ rfl rfl hl.1 rfl (lv_room (Nat.le_of_ble_eq_true rfl)) dL_cascades_11 ⟨Nat.zero_le _, Nat.zero_le _⟩).run ?_
    refine zt_i (v := (-1002)) (rfl) ?_
    refine lv_istore_n (lv' := [(3, .int (-1002)), (2, .int (nI (σ 8))), (1, .int (-1004)), (0, .ref (A 0))]) hx hb dL_cascades_14 rfl hl (by decide) rfl (fun ls hl => ?_)
    refine lv_iload_n hx hb dL_cascades_15 rfl (lv_at hl 2 rfl) ?_
    refine zz_if_ge (tgt := 40) (a := -1004) hx hb dL_cascades_16 (by decide) (by decide) (fun c16 => ?_) (fun c16 => ?_)
    · exact absurd c16 (by omega)
    · refine lv_iload_n hx hb dL_cascades_19 rfl (lv_at hl 0 rfl) ?_
      refine lv_sipush (v := (-1002)) hx hb dL_cascades_20 (by decide) ?_
      refine zz_icmp_ne (tgt := 38) (a := -1002) (b := -1002) hx hb dL_cascades_23 (by decide) (by decide) (by decide) (fun c23 => ?_) (fun c23 => ?_)
      · exact absurd c23 (by omega)
      · refine lv_aload_n hx hb dL_cascades_26 rfl (lv_at hl 3 rfl) ?_
        refine zc_r (va_runV (As := []) (rest := []) ⟨hx, hb, hml, hown, hts⟩ (c_X5_sent l D Y A B σ hn h r0 r1 r2 r3 r4 wt wn  kσ kr) (cwV 0 hts gL_cascades_X5_sent rfl rfl rfl (by decide +kernel) (by rw [hR]; exact ⟨Nat.le_of_ble_eq_true rfl, Nat.le_of_ble_eq_true rfl⟩)) ⟨zB_blind, va_recv hK hP (ci := 5) (q0 := 0) rfl rfl, zp_r hP hK hN⟩ rfl rfl hl.1 rfl (lv_room (Nat.le_of_ble_eq_true rfl)) dL_cascades_27 ⟨Nat.zero_le _, Nat.zero_le _⟩).run ?_
        refine zt_i (v := (nI (σ 8))) (rfl) ?_
        refine lv_iload_n hx hb dL_cascades_30 rfl (lv_at hl 1 rfl) ?_
        refine zn_icmp_ne (tgt := 38)  hx hb dL_cascades_31 (by decide) (by omega) (by omega) (fun c31 => ?_) (fun c31 => ?_)
        · exact absurd c31 (by omega)
        · refine lv_iconst (v := (nI 1)) hx hb dL_cascades_34 (by decide) ?_
          refine lv_goto (tgt := 39) hx hb dL_cascades_35 (by decide) ?_
          exact ze_z hx hb hr hlk hQ hS dL_cascades_39 (rfl) (by first | exact zq_or _ | decide) (⟨B, hn, h, r0, r1, r2, r3, r4, ⟨kσ, kr, khn, kh⟩, hP, hD⟩)
