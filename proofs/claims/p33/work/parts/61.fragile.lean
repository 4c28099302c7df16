set_option maxHeartbeats 4000000 in
set_option maxRecDepth 100000 in
theorem c_L_fragile (l : Launch) (D : va_G) (Y : Nat → ClassId) (A : Nat → Nat) (B : Nat → Nat) (σ : Nat → Nat) (hn : Nat) (h : Nat → Nat → Nat) (r0 : Nat → Nat) (r1 : Nat → Nat) (r2 : Nat → Nat) (r3 : Nat → Nat) (r4 : Nat → Nat) (wt : Nat → Nat) (wn : Nat)   (kσ : zWF σ) (kr : zCon σ r0 r1 r2 r3 r4) (khn : hn ≤ 6) (kh : ∀ i, i < hn → zWF (h i)) : Met l yL_fragile wsL_fragile ({ frames := 7, cells := 0, slots := 0, locals := 155 } : Room) (va_Pc [.ref (A 0)] (zBw D Y (CX Y A B σ hn h (wdS σ) (ddS σ) r0 r1 r2 r3 r4 (σ 0) (pak (itC (wdS σ) σ) (σ 0)) (mkP (fun k9 => decide (k9 < σ 0))) wt wn))) (zEh (some (.int (nI 1))) (zS5 D Y A σ wt wn) (zA (CX Y A B σ hn h (wdS σ) (ddS σ) r0 r1 r2 r3 r4 (σ 0) (pak (itC (wdS σ) σ) (σ 0)) (mkP (fun k9 => decide (k9 < σ 0))) wt wn))) 0 0 (zA (CX Y A B σ hn h (wdS σ) (ddS σ) r0 r1 r2 r3 r4 (σ 0) (pak (itC (wdS σ) σ) (σ 0)) (mkP (fun k9 => decide (k9 < σ 0))) wt wn)) := by
  refine ze_of (cc := cL_fragile) (maxL := 9) (ret := (some .boolean)) (by decide) rfl (Nat.le_of_ble_eq_true rfl) ?_
  intro p e s m below meth c R args Q FA hR hx hb hml hr hlk hown hts hK hN hQ hP hD hS ls hl
  have hown : s.vm.findClass RL = some m.cls := hown
  have hl : lv_has ls 9 [(0, .ref (A 0))] := hl
  have hS := hS
  have kw := kσ
  obtain ⟨n3, n12, d1, d3, dn, b4, b10, gl, lm, sn, wl, wnz⟩ := kw
  have pb := zp_b b10
  have pk9 := zp_k d3
  have hpak : pak (itC (wdS σ) σ) (σ 0) < 281474976710656 := Nat.lt_of_lt_of_le (pak_lt (fun j _ => itC_lt _ _ j)) (show 2 ^ (4 * σ 0) ≤ 2 ^ 48 from Nat.pow_le_pow_right (by decide) (by omega))
  have hbar := barS_le kσ
  suffices hgo : ∀ (H : Heap) (locs : List Loc), va_P D vwCl (CX Y A B σ hn h (wdS σ) (ddS σ) r0 r1 r2 r3 r4 (σ 0) (pak (itC (wdS σ) σ) (σ 0)) (mkP (fun k9 => decide (k9 < σ 0))) wt wn) H → va_S FA s.heap H locs → W p l e R s m args below meth c H locs 0 0 Q (F0 m 0 ls []) from hgo _ _ hP hS
  clear hP hS
  intro H locs hP hS
  have hlo := lostN_le σ (σ 0)
  have hfb := frb_lost σ (σ 0)
  have hfk : frkI σ (σ 0) ≤ σ 0 := cnt_le _ _
  have hmb : (σ 0 - lostN σ (σ 0)) * σ 2 ≤ 12 * 10 := Nat.mul_le_mul (by omega) b10
  have hfb2 := frbI_le σ b10 (σ 0)
  refine lv_aload_n hx hb dL_fragile_0 rfl (lv_at hl 0 rfl) ?_
  refine lv_iconst (v := (nI 0)) hx hb dL_fragile_1 (by decide) ?_
  refine zc_r (va_runV (As := [.int (nI 0)]) (rest := []) ⟨hx, hb, hml, hown, hts⟩ (c_X5_count l D Y A B σ hn h r0 r1 r2 r3 r4 wt wn ((nI 0)) kσ kr) (cwV 1 hts gL_fragile_X5_count rfl rfl rfl (by decide +kernel) (by rw [hR]; exact ⟨Nat.le_of_ble_eq_true rfl, Nat.le_of_ble_eq_true rfl⟩)) ⟨zB_blind, va_recv hK hP (ci := 5) (q0 := 0) rfl rfl, zp_r hP hK hN⟩ rfl rfl hl.1 rfl (lv_room (Nat.le_of_ble_eq_true rfl)) dL_fragile_2 ⟨Nat.zero_le _, Nat.zero_le _⟩).run ?_
  refine zt_i (v := (nI (σ 0))) (cV0 _ _ _) ?_
  refine lv_istore_n (lv' := [(1, .int (nI (σ 0))), (0, .ref (A 0))]) hx hb dL_fragile_5 rfl hl (by decide) rfl (fun ls hl => ?_)
  refine lv_aload_n hx hb dL_fragile_6 rfl (lv_at hl 1 rfl) ?_
  refine lv_iconst (v := (nI 3)) hx hb dL_fragile_7 (by decide) ?_
  refine zc_r (va_runV (As := [.int (nI 3)]) (rest := []) ⟨hx, hb, hml, hown, hts⟩ (c_X5_count l D Y A B σ hn h r0 r1 r2 r3 r4 wt wn ((nI 3)) kσ kr) (cwV 1 hts gL_fragile_X5_count rfl rfl rfl (by decide +kernel) (by rw [hR]; exact ⟨Nat.le_of_ble_eq_true rfl, Nat.le_of_ble_eq_true rfl⟩)) ⟨zB_blind, va_recv hK hP (ci := 5) (q0 := 0) rfl rfl, zp_r hP hK hN⟩ rfl rfl hl.1 rfl (lv_room (Nat.le_of_ble_eq_true rfl)) dL_fragile_8 ⟨Nat.zero_le _, Nat.zero_le _⟩).run ?_
  refine zt_i (v := (nI (σ 2))) (cV3 _ _ _) ?_
  refine lv_istore_n (lv' := [(2, .int (nI (σ 2))), (1, .int (nI (σ 0))), (0, .ref (A 0))]) hx hb dL_fragile_11 rfl hl (by decide) rfl (fun ls hl => ?_)
  refine lv_aload_n hx hb dL_fragile_12 rfl (lv_at hl 2 rfl) ?_
  refine zc_r (va_runV (As := []) (rest := []) ⟨hx, hb, hml, hown, hts⟩ (c_X5_fragileBits l D Y A B σ hn h r0 r1 r2 r3 r4 wt wn  kσ kr) (cwV 0 hts gL_fragile_X5_fragileBits rfl rfl rfl (by decide +kernel) (by rw [hR]; exact ⟨Nat.le_of_ble_eq_true rfl, Nat.le_of_ble_eq_true rfl⟩)) ⟨zB_blind, va_recv hK hP (ci := 5) (q0 := 0) rfl rfl, zp_r hP hK hN⟩ rfl rfl hl.1 rfl (lv_room (Nat.le_of_ble_eq_true rfl)) dL_fragile_13 ⟨Nat.zero_le _, Nat.zero_le _⟩).run ?_
  refine zt_i (v := (nI (frbI σ (σ 0)))) (rfl) ?_
  refine lv_istore_n (lv' := [(3, .int (nI (frbI σ (σ 0)))), (2, .int (nI (σ 2))), (1, .int (nI (σ 0))), (0, .ref (A 0))]) hx hb dL_fragile_16 rfl hl (by decide) rfl (fun ls hl => ?_)
  refine lv_aload_n hx hb dL_fragile_17 rfl (lv_at hl 3 rfl) ?_
  refine zc_r (va_runV (As := []) (rest := []) ⟨hx, hb, hml, hown, hts⟩ (c_X5_fragileBlocks l D Y A B σ hn h r0 r1 r2 r3 r4 wt wn  kσ kr) (cwV 0 hts gL_fragile_X5_fragileBlocks rfl rfl rfl (by decide +kernel) (by rw [hR]; exact ⟨Nat.le_of_ble_eq_true rfl, Nat.le_of_ble_eq_true rfl⟩)) ⟨zB_blind, va_recv hK hP (ci := 5) (q0 := 0) rfl rfl, zp_r hP hK hN⟩ rfl rfl hl.1 rfl (lv_room (Nat.le_of_ble_eq_true rfl)) dL_fragile_18 ⟨Nat.zero_le _, Nat.zero_le _⟩).run ?_
  refine zt_i (v := (nI (frkI σ (σ 0)))) (rfl) ?_
  refine lv_istore (lv' := [(4, .int (nI (frkI σ (σ 0)))), (3, .int (nI (frbI σ (σ 0)))), (2, .int (nI (σ 2))), (1, .int (nI (σ 0))), (0, .ref (A 0))]) hx hb dL_fragile_21 hl (by decide) rfl (fun ls hl => ?_)
  refine lv_iconst (v := (nI 0)) hx hb dL_fragile_23 (by decide) ?_
  refine lv_istore (lv' := [(5, .int (nI 0)), (4, .int (nI (frkI σ (σ 0)))), (3, .int (nI (frbI σ (σ 0)))), (2, .int (nI (σ 2))), (1, .int (nI (σ 0))), (0, .ref (A 0))]) hx hb dL_fragile_24 hl (by decide) rfl (fun ls hl => ?_)
  refine lv_iload_n hx hb dL_fragile_26 rfl (lv_at hl 2 rfl) ?_
  refine zn_if_lt (tgt := 59)  hx hb dL_fragile_27 (by decide) (by omega) (fun c27 => ?_) (fun c27 => ?_)
  · exact absurd c27 (by omega)
  · refine lv_iload_n hx hb dL_fragile_30 rfl (lv_at hl 2 rfl) ?_
    refine lv_iload_n hx hb dL_fragile_31 rfl (lv_at hl 4 rfl) ?_
    refine lv_aload_n hx hb dL_fragile_32 rfl (lv_at hl 5 rfl) ?_
    refine lv_bipush (v := (nI 7)) hx hb dL_fragile_33 (by decide) ?_
    refine zc_r (va_runV (As := [.int (nI 7)]) (rest := [.int (nI (σ 0)), .int (nI (frbI σ (σ 0)))]) ⟨hx, hb, hml, hown, hts⟩ (c_X5_count l D Y A B σ hn h r0 r1 r2 r3 r4 wt wn ((nI 7)) kσ kr) (cwV 1 hts gL_fragile_X5_count rfl rfl rfl (by decide +kernel) (by rw [hR]; exact ⟨Nat.le_of_ble_eq_true rfl, Nat.le_of_ble_eq_true rfl⟩)) ⟨zB_blind, va_recv hK hP (ci := 5) (q0 := 0) rfl rfl, zp_r hP hK hN⟩ rfl rfl hl.1 rfl (lv_room (Nat.le_of_ble_eq_true rfl)) dL_fragile_35 ⟨Nat.zero_le _, Nat.zero_le _⟩).run ?_
    refine zt_i (v := (nI (lostN σ (σ 0)))) (cV7 _ _ _) ?_
    refine zv_isub hx hb (v := (nI ((σ 0) - (lostN σ (σ 0))))) dL_fragile_38 (pk_sub (by omega)) ?_
    refine lv_iload_n hx hb dL_fragile_39 rfl (lv_at hl 3 rfl) ?_
    refine zv_imul hx hb (v := (nI (((σ 0) - (lostN σ (σ 0))) * (σ 2)))) dL_fragile_40 (pk_mul _ _) ?_
    refine zn_icmp_gt (tgt := 59)  hx hb dL_fragile_41 (by decide) (by omega) (by omega) (fun c41 => ?_) (fun c41 => ?_)
    · exact absurd c41 (by omega)
    · refine lv_iload hx hb dL_fragile_44 (lv_at hl 1 rfl) ?_
      refine zn_if_lt (tgt := 59)  hx hb dL_fragile_46 (by decide) (by omega) (fun c46 => ?_) (fun c46 => ?_)
      · exact absurd c46 (by omega)
      · refine lv_iload hx hb dL_fragile_49 (lv_at hl 1 rfl) ?_
        refine lv_iload_n hx hb dL_fragile_51 rfl (lv_at hl 4 rfl) ?_
        refine zn_icmp_gt (tgt := 59)  hx hb dL_fragile_52 (by decide) (by omega) (by omega) (fun c52 => ?_) (fun c52 => ?_)
        · exact absurd c52 (by omega)
        · refine lv_iconst (v := (nI 1)) hx hb dL_fragile_55 (by decide) ?_
          refine lv_goto (tgt := 60) hx hb dL_fragile_56 (by decide) ?_
          refine lv_istore (lv' := [(6, .int (nI 1)), (5, .int (nI 0)), (4, .int (nI (frkI σ (σ 0)))), (3, .int (nI (frbI σ (σ 0)))), (2, .int (nI (σ 2))), (1, .int (nI (σ 0))), (0, .ref (A 0))]) hx hb dL_fragile_60 hl (by decide) rfl (fun ls hl => ?_)
          refine lv_iconst (v := (nI 0)) hx hb dL_fragile_62 (by decide) ?_
          refine lv_istore (lv' := [(7, .int (nI 0)), (6, .int (nI 1)), (5, .int (nI 0)), (4, .int (nI (frkI σ (σ 0)))), (3, .int (nI (frbI σ (σ 0)))), (2, .int (nI (σ 2))), (1, .int (nI (σ 0))), (0, .ref (A 0))]) hx hb dL_fragile_63 hl (by decide) rfl (fun ls hl => ?_)
          have L65 : ∀ (n9 : Nat) (j : Nat) (B : Nat → Nat) (hn : Nat) (h : Nat → Nat → Nat) (r0 : Nat → Nat) (r1 : Nat → Nat) (r2 : Nat → Nat) (r3 : Nat → Nat) (r4 : Nat → Nat) (hj : j ≤ σ 0) (kr : zCon σ r0 r1 r2 r3 r4) (khn : hn ≤ 6) (kh : ∀ i, i < hn → zWF (h i)), σ 0 - j < n9 → ∀ (H : Heap) (locs : List Loc), va_P D vwCl (CX Y A B σ hn h (wdS σ) (ddS σ) r0 r1 r2 r3 r4 (σ 0) (pak (itC (wdS σ) σ) (σ 0)) (mkP (fun k9 => decide (k9 < σ 0))) wt wn) H → va_D FA (CX Y A B σ hn h (wdS σ) (ddS σ) r0 r1 r2 r3 r4 (σ 0) (pak (itC (wdS σ) σ) (σ 0)) (mkP (fun k9 => decide (k9 < σ 0))) wt wn) → va_S FA s.heap H locs → ∀ ls : Array Slot, lv_has ls 9 [(7, .int (nI j)), (6, .int (nI 1)), (5, .int (nI (frbI σ j))), (4, .int (nI (frkI σ (σ 0)))), (3, .int (nI (frbI σ (σ 0)))), (2, .int (nI (σ 2))), (1, .int (nI (σ 0))), (0, .ref (A 0))] → W p l e R s m args below meth c H locs 0 0 Q (F0 m 65 ls []) := by
            intro n9
            induction n9 with
            | zero => intro j B hn h r0 r1 r2 r3 r4 hj kr khn kh hn9; exact absurd hn9 (Nat.not_lt_zero _)
            | succ n9 ih9 =>
              have ih65 := ih9
              clear ih9
              intro j B hn h r0 r1 r2 r3 r4 hj kr khn kh hn9 H locs hP hD hS ls hl
              have hfj := frbI_le σ b10 j
              refine lv_iload hx hb dL_fragile_65 (lv_at hl 0 rfl) ?_
              refine lv_iload_n hx hb dL_fragile_67 rfl (lv_at hl 6 rfl) ?_
              refine zn_icmp_ge (tgt := 171)  hx hb dL_fragile_68 (by decide) (by omega) (by omega) (fun c68 => ?_) (fun c68 => ?_)
              · obtain rfl : j = σ 0 := by omega
                refine lv_iload hx hb dL_fragile_171 (lv_at hl 1 rfl) ?_
                refine zn_if_eq (tgt := 186)  hx hb dL_fragile_173 (by decide) (by omega) (fun c173 => ?_) (fun c173 => ?_)
                · exact absurd c173 (by omega)
                · refine lv_iload hx hb dL_fragile_176 (lv_at hl 2 rfl) ?_
                  refine lv_iload_n hx hb dL_fragile_178 rfl (lv_at hl 4 rfl) ?_
                  refine zn_icmp_ne (tgt := 186)  hx hb dL_fragile_179 (by decide) (by omega) (by omega) (fun c179 => ?_) (fun c179 => ?_)
                  · exact absurd c179 (by omega)
                  · refine lv_iconst (v := (nI 1)) hx hb dL_fragile_182 (by decide) ?_
                    refine lv_goto (tgt := 187) hx hb dL_fragile_183 (by decide) ?_
                    refine lv_istore (lv' := [(6, .int (nI 1)), (7, .int (nI ((σ 0)))), (5, .int (nI (frbI σ (σ 0)))), (4, .int (nI (frkI σ (σ 0)))), (3, .int (nI (frbI σ (σ 0)))), (2, .int (nI (σ 2))), (1, .int (nI (σ 0))), (0, .ref (A 0))]) hx hb dL_fragile_187 hl (by decide) rfl (fun ls hl => ?_)
                    refine lv_iconst (v := (nI 0)) hx hb dL_fragile_189 (by decide) ?_
                    refine lv_istore (lv' := [(5, .int (nI 0)), (6, .int (nI 1)), (7, .int (nI ((σ 0)))), (4, .int (nI (frkI σ (σ 0)))), (3, .int (nI (frbI σ (σ 0)))), (2, .int (nI (σ 2))), (1, .int (nI (σ 0))), (0, .ref (A 0))]) hx hb dL_fragile_190 hl (by decide) rfl (fun ls hl => ?_)
                    refine lv_iconst (v := (nI 0)) hx hb dL_fragile_192 (by decide) ?_
                    refine lv_istore (lv' := [(7, .int (nI 0)), (5, .int (nI 0)), (6, .int (nI 1)), (4, .int (nI (frkI σ (σ 0)))), (3, .int (nI (frbI σ (σ 0)))), (2, .int (nI (σ 2))), (1, .int (nI (σ 0))), (0, .ref (A 0))]) hx hb dL_fragile_193 hl (by decide) rfl (fun ls hl => ?_)
                    have L195 : ∀ (n9 : Nat) (j : Nat) (B : Nat → Nat) (hn : Nat) (h : Nat → Nat → Nat) (r0 : Nat → Nat) (r1 : Nat → Nat) (r2 : Nat → Nat) (r3 : Nat → Nat) (r4 : Nat → Nat) (hj : j ≤ σ 0) (kr : zCon σ r0 r1 r2 r3 r4) (khn : hn ≤ 6) (kh : ∀ i, i < hn → zWF (h i)), σ 0 - j < n9 → ∀ (H : Heap) (locs : List Loc), va_P D vwCl (CX Y A B σ hn h (wdS σ) (ddS σ) r0 r1 r2 r3 r4 (σ 0) (pak (itC (wdS σ) σ) (σ 0)) (mkP (fun k9 => decide (k9 < σ 0))) wt wn) H → va_D FA (CX Y A B σ hn h (wdS σ) (ddS σ) r0 r1 r2 r3 r4 (σ 0) (pak (itC (wdS σ) σ) (σ 0)) (mkP (fun k9 => decide (k9 < σ 0))) wt wn) → va_S FA s.heap H locs → ∀ ls : Array Slot, lv_has ls 9 [(7, .int (nI j)), (5, .int (nI (frkI σ j))), (6, .int (nI 1)), (4, .int (nI (frkI σ (σ 0)))), (3, .int (nI (frbI σ (σ 0)))), (2, .int (nI (σ 2))), (1, .int (nI (σ 0))), (0, .ref (A 0))] → W p l e R s m args below meth c H locs 0 0 Q (F0 m 195 ls []) := by
                      intro n9
                      induction n9 with
                      | zero => intro j B hn h r0 r1 r2 r3 r4 hj kr khn kh hn9; exact absurd hn9 (Nat.not_lt_zero _)
                      | succ n9 ih9 =>
                        have ih195 := ih9
                        clear ih9
                        intro j B hn h r0 r1 r2 r3 r4 hj kr khn kh hn9 H locs hP hD hS ls hl
                        have hfj : frkI σ j ≤ j := cnt_le _ _
                        refine lv_iload hx hb dL_fragile_195 (lv_at hl 0 rfl) ?_
                        refine lv_iload_n hx hb dL_fragile_197 rfl (lv_at hl 6 rfl) ?_
                        refine zn_icmp_ge (tgt := 269)  hx hb dL_fragile_198 (by decide) (by omega) (by omega) (fun c198 => ?_) (fun c198 => ?_)
                        · obtain rfl : j = σ 0 := by omega
                          refine lv_iload hx hb dL_fragile_269 (lv_at hl 2 rfl) ?_
                          refine zn_if_eq (tgt := 285)  hx hb dL_fragile_271 (by decide) (by omega) (fun c271 => ?_) (fun c271 => ?_)
                          · exact absurd c271 (by omega)
                          · refine lv_iload hx hb dL_fragile_274 (lv_at hl 1 rfl) ?_
                            refine lv_iload hx hb dL_fragile_276 (lv_at hl 3 rfl) ?_
                            refine zn_icmp_ne (tgt := 285)  hx hb dL_fragile_278 (by decide) (by omega) (by omega) (fun c278 => ?_) (fun c278 => ?_)
                            · exact absurd c278 (by omega)
                            · refine lv_iconst (v := (nI 1)) hx hb dL_fragile_281 (by decide) ?_
                              refine lv_goto (tgt := 286) hx hb dL_fragile_282 (by decide) ?_
                              exact ze_z hx hb hr hlk hQ hS dL_fragile_286 (rfl) (by first | exact zq_or _ | decide) (⟨B, hn, h, r0, r1, r2, r3, r4, ⟨kσ, kr, khn, kh⟩, hP, hD⟩)
                        · refine lv_iload hx hb dL_fragile_201 (lv_at hl 2 rfl) ?_
                          refine zn_if_eq (tgt := 269)  hx hb dL_fragile_203 (by decide) (by omega) (fun c203 => ?_) (fun c203 => ?_)
                          · exact absurd c203 (by omega)
                          · refine lv_aload_n hx hb dL_fragile_206 rfl (lv_at hl 7 rfl) ?_
                            refine lv_iload hx hb dL_fragile_207 (lv_at hl 0 rfl) ?_
                            refine lv_iconst (v := (nI 1)) hx hb dL_fragile_209 (by decide) ?_
                            refine zc_w (va_runV (As := [.int (nI j), .int (nI 1)]) (rest := []) ⟨hx, hb, hml, hown, hts⟩ (c_X5_lose l D Y A B σ hn h r0 r1 r2 r3 r4 wt wn j 1 kσ kr khn (by omega) (by omega)) (cwV 2 hts gL_fragile_X5_lose rfl rfl rfl (by decide +kernel) (by rw [hR]; exact ⟨Nat.le_of_ble_eq_true rfl, Nat.le_of_ble_eq_true rfl⟩)) ⟨zBw_blind, va_recv hK hP (ci := 5) (q0 := 0) rfl rfl, zp_w hP hD hK hN⟩ rfl rfl hl.1 rfl (lv_room (Nat.le_of_ble_eq_true rfl)) dL_fragile_210 ⟨Nat.zero_le _, Nat.zero_le _⟩).run hS (zA_of hD) (fun H locs hP hz hk hS => ?_)
                            have hD : va_D FA (CX Y A (recB B hn) (losS σ j 1) (recN hn) (recH h hn σ) (wdS (losS σ j 1)) (ddS (losS σ j 1)) (ag0 (losS σ j 1) r0) (ag1 (losS σ j 1) r1) (ag2 (losS σ j 1) r2) (ag3 (losS σ j 1) r2 r3) (ag4 (losS σ j 1) r2 r4) ((losS σ j 1) 0) (pak (itC (wdS (losS σ j 1)) (losS σ j 1)) ((losS σ j 1) 0)) (mkP (fun k9 => decide (k9 < (losS σ j 1) 0))) wt wn) := CX_dd (CX_recD hD)
                            have kτ := zWF_los (v := 1) kσ (show j < 12 by omega)
                            have h8 : (losS σ j 1) 8 = σ 8 := zu_ne _ _ _ (by decide)
                            have hrN := rec_N khn
                            have hz := zL_01 (σ 7) j
                            refine zn_if_lt (tgt := 220)  hx hb dL_fragile_213 (by decide) (by omega) (fun c213 => ?_) (fun c213 => ?_)
                            · exact absurd c213 (by omega)
                            · refine lv_iconst (v := (nI 1)) hx hb dL_fragile_216 (by decide) ?_
                              refine lv_goto (tgt := 221) hx hb dL_fragile_217 (by decide) ?_
                              refine lv_istore (lv' := [(6, .int (nI 1)), (7, .int (nI j)), (5, .int (nI (frkI σ j))), (4, .int (nI (frkI σ (σ 0)))), (3, .int (nI (frbI σ (σ 0)))), (2, .int (nI (σ 2))), (1, .int (nI (σ 0))), (0, .ref (A 0))]) hx hb dL_fragile_221 hl (by decide) rfl (fun ls hl => ?_)
                              refine lv_iload hx hb dL_fragile_223 (lv_at hl 2 rfl) ?_
                              refine lv_aload_n hx hb dL_fragile_225 rfl (lv_at hl 7 rfl) ?_
                              refine zc_r (va_runV (As := []) (rest := [.int (nI (frkI σ j))]) ⟨hx, hb, hml, hown, hts⟩ (c_X5_decode l D Y A (recB B hn) (losS σ j 1) (recN hn) (recH h hn σ) (ag0 (losS σ j 1) r0) (ag1 (losS σ j 1) r1) (ag2 (losS σ j 1) r2) (ag3 (losS σ j 1) r2 r3) (ag4 (losS σ j 1) r2 r4) wt wn  kτ (zCon_ag _ _ _ _ _ _)) (cwV 0 hts gL_fragile_X5_decode rfl rfl rfl (by decide +kernel) (by rw [hR]; exact ⟨Nat.le_of_ble_eq_true rfl, Nat.le_of_ble_eq_true rfl⟩)) ⟨zB_blind, va_recv hK hP (ci := 5) (q0 := 0) rfl rfl, zp_r hP hK hN⟩ rfl rfl hl.1 rfl (lv_room (Nat.le_of_ble_eq_true rfl)) dL_fragile_226 ⟨Nat.zero_le _, Nat.zero_le _⟩).run ?_
                              refine lv_aload_n hx hb dL_fragile_229 rfl (lv_at hl 7 rfl) ?_
                              refine zc_r (va_runV (As := []) (rest := [.int (decodeV (losS σ j 1)), .int (nI (frkI σ j))]) ⟨hx, hb, hml, hown, hts⟩ (c_X5_sent l D Y A (recB B hn) (losS σ j 1) (recN hn) (recH h hn σ) (ag0 (losS σ j 1) r0) (ag1 (losS σ j 1) r1) (ag2 (losS σ j 1) r2) (ag3 (losS σ j 1) r2 r3) (ag4 (losS σ j 1) r2 r4) wt wn  kτ (zCon_ag _ _ _ _ _ _)) (cwV 0 hts gL_fragile_X5_sent rfl rfl rfl (by decide +kernel) (by rw [hR]; exact ⟨Nat.le_of_ble_eq_true rfl, Nat.le_of_ble_eq_true rfl⟩)) ⟨zB_blind, va_recv hK hP (ci := 5) (q0 := 0) rfl rfl, zp_r hP hK hN⟩ rfl rfl hl.1 rfl (lv_room (Nat.le_of_ble_eq_true rfl)) dL_fragile_230 ⟨Nat.zero_le _, Nat.zero_le _⟩).run ?_
                              refine zt_i (v := (nI ((losS σ j 1) 8))) (rfl) ?_
                              have J241 : W p l e R s m args below meth c H locs 0 0 Q (F0 m 241 ls [.int (nI (b01 (frkP σ j))), .int (nI (frkI σ j))]) := by
                                refine zv_iadd hx hb (v := (nI ((frkI σ j) + (b01 (frkP σ j))))) dL_fragile_241 (nI_add _ _) ?_
                                refine lv_istore (lv' := [(5, .int (nI ((frkI σ j) + (b01 (frkP σ j))))), (6, .int (nI 1)), (7, .int (nI j)), (4, .int (nI (frkI σ (σ 0)))), (3, .int (nI (frbI σ (σ 0)))), (2, .int (nI (σ 2))), (1, .int (nI (σ 0))), (0, .ref (A 0))]) hx hb dL_fragile_242 hl (by decide) rfl (fun ls hl => ?_)
                                refine lv_iload hx hb dL_fragile_244 (lv_at hl 1 rfl) ?_
                                refine zn_if_eq (tgt := 260)  hx hb dL_fragile_246 (by decide) (by omega) (fun c246 => ?_) (fun c246 => ?_)
                                · exact absurd c246 (by omega)
                                · refine lv_aload_n hx hb dL_fragile_249 rfl (lv_at hl 7 rfl) ?_
                                  refine zc_w (va_runV (As := []) (rest := []) ⟨hx, hb, hml, hown, hts⟩ (c_X5_undoT l D Y A (recB B hn) (losS σ j 1) (recN hn) (recH h hn σ) (ag0 (losS σ j 1) r0) (ag1 (losS σ j 1) r1) (ag2 (losS σ j 1) r2) (ag3 (losS σ j 1) r2 r3) (ag4 (losS σ j 1) r2 r4) wt wn σ kτ (zCon_ag _ _ _ _ _ _) (rec_N khn).1 (rec_N khn).2.1 rec_top kσ) (cwV 0 hts gL_fragile_X5_undo rfl rfl rfl (by decide +kernel) (by rw [hR]; exact ⟨Nat.le_of_ble_eq_true rfl, Nat.le_of_ble_eq_true rfl⟩)) ⟨zBw_blind, va_recv hK hP (ci := 5) (q0 := 0) rfl rfl, zp_w hP hD hK hN⟩ rfl rfl hl.1 rfl (lv_room (Nat.le_of_ble_eq_true rfl)) dL_fragile_250 ⟨Nat.zero_le _, Nat.zero_le _⟩).run hS (zA_of hD) (fun H locs hP hz hk hS => ?_)
                                  have hD : va_D FA (CX Y A (recB B hn) σ ((recN hn) - 1) (recH h hn σ) (wdS σ) (ddS σ) (ag0 σ (ag0 (losS σ j 1) r0)) (ag1 σ (ag1 (losS σ j 1) r1)) (ag2 σ (ag2 (losS σ j 1) r2)) (ag3 σ (ag2 (losS σ j 1) r2) (ag3 (losS σ j 1) r2 r3)) (ag4 σ (ag2 (losS σ j 1) r2) (ag4 (losS σ j 1) r2 r4)) (σ 0) (pak (itC (wdS σ) σ) (σ 0)) (mkP (fun k9 => decide (k9 < σ 0))) wt wn) := CX_dd hD
                                  refine zn_if_lt (tgt := 260)  hx hb dL_fragile_253 (by decide) (by omega) (fun c253 => ?_) (fun c253 => ?_)
                                  · exact absurd c253 (by omega)
                                  · refine lv_iconst (v := (nI 1)) hx hb dL_fragile_256 (by decide) ?_
                                    refine lv_goto (tgt := 261) hx hb dL_fragile_257 (by decide) ?_
                                    refine lv_istore (lv' := [(6, .int (nI 1)), (5, .int (nI ((frkI σ j) + (b01 (frkP σ j))))), (7, .int (nI j)), (4, .int (nI (frkI σ (σ 0)))), (3, .int (nI (frbI σ (σ 0)))), (2, .int (nI (σ 2))), (1, .int (nI (σ 0))), (0, .ref (A 0))]) hx hb dL_fragile_261 hl (by decide) rfl (fun ls hl => ?_)
                                    refine lv_iinc (v := (nI (j + 1))) (lv' := [(7, .int (nI (j + 1))), (6, .int (nI 1)), (5, .int (nI ((frkI σ j) + (b01 (frkP σ j))))), (4, .int (nI (frkI σ (σ 0)))), (3, .int (nI (frbI σ (σ 0)))), (2, .int (nI (σ 2))), (1, .int (nI (σ 0))), (0, .ref (A 0))]) hx hb dL_fragile_263 hl (k := 2) rfl (zinc _) (by decide) rfl (fun ls hl => ?_)
                                    refine lv_goto (tgt := 195) hx hb dL_fragile_266 (by decide) ?_
                                    rw [show (.int (nI ((frkI σ j) + (b01 (frkP σ j)))) : Value) = .int (nI (frkI σ (j + 1))) from congrArg _ (congrArg nI (show _ = frkI σ j + b01 (frkP σ j) from rfl))] at hl
                                    have hP : va_P D vwCl (CX Y A ((recB B hn)) σ (((recN hn) - 1)) ((recH h hn σ)) (wdS σ) (ddS σ) ((ag0 σ (ag0 (losS σ j 1) r0))) ((ag1 σ (ag1 (losS σ j 1) r1))) ((ag2 σ (ag2 (losS σ j 1) r2))) ((ag3 σ (ag2 (losS σ j 1) r2) (ag3 (losS σ j 1) r2 r3))) ((ag4 σ (ag2 (losS σ j 1) r2) (ag4 (losS σ j 1) r2 r4))) (σ 0) (pak (itC (wdS σ) σ) (σ 0)) (mkP (fun k9 => decide (k9 < σ 0))) wt wn) H := hP
                                    have hD : va_D FA (CX Y A ((recB B hn)) σ (((recN hn) - 1)) ((recH h hn σ)) (wdS σ) (ddS σ) ((ag0 σ (ag0 (losS σ j 1) r0))) ((ag1 σ (ag1 (losS σ j 1) r1))) ((ag2 σ (ag2 (losS σ j 1) r2))) ((ag3 σ (ag2 (losS σ j 1) r2) (ag3 (losS σ j 1) r2 r3))) ((ag4 σ (ag2 (losS σ j 1) r2) (ag4 (losS σ j 1) r2 r4))) (σ 0) (pak (itC (wdS σ) σ) (σ 0)) (mkP (fun k9 => decide (k9 < σ 0))) wt wn) := CX_dd hD
                                    exact ih195 (j + 1) (recB B hn) ((recN hn) - 1) (recH h hn σ) (ag0 σ (ag0 (losS σ j 1) r0)) (ag1 σ (ag1 (losS σ j 1) r1)) (ag2 σ (ag2 (losS σ j 1) r2)) (ag3 σ (ag2 (losS σ j 1) r2) (ag3 (losS σ j 1) r2 r3)) (ag4 σ (ag2 (losS σ j 1) r2) (ag4 (losS σ j 1) r2 r4)) (by omega) (zCon_ag _ _ _ _ _ _) (by omega) (fun q9 h9 => rec_K kσ kh q9 (by omega)) (by omega) H locs hP hD hS ls (lv_sub hl [0, 2, 1, 3, 4, 5, 6, 7] rfl)
                              refine zz_icmp_ne (tgt := 240) (a := (decodeV (losS σ j 1)).toInt) (b := ((((losS σ j 1) 8 : Nat)) : Int)) hx hb dL_fragile_233 (by decide) (rfl) (zt_n (by omega)) (fun c233 => ?_) (fun c233 => ?_)
                              · refine lv_iconst (v := (nI 1)) hx hb dL_fragile_240 (by decide) ?_
                                refine zt_i (v := (nI (b01 (frkP σ j)))) (by first | exact congrArg nI (frk_y (by omega) ((right_iff kτ).mp c233)) | exact congrArg nI (frk_n (by omega) (fun z9 => c233 ((right_iff kτ).mpr z9)))) ?_
                                exact J241
                              · refine lv_iconst (v := (nI 0)) hx hb dL_fragile_236 (by decide) ?_
                                refine lv_goto (tgt := 241) hx hb dL_fragile_237 (by decide) ?_
                                refine zt_i (v := (nI (b01 (frkP σ j)))) (by first | exact congrArg nI (frk_y (by omega) ((right_iff kτ).mp c233)) | exact congrArg nI (frk_n (by omega) (fun z9 => c233 ((right_iff kτ).mpr z9)))) ?_
                                exact J241
                    have hP : va_P D vwCl (CX Y A B σ hn h (wdS σ) (ddS σ) r0 r1 r2 r3 r4 (σ 0) (pak (itC (wdS σ) σ) (σ 0)) (mkP (fun k9 => decide (k9 < σ 0))) wt wn) H := hP
                    have hD : va_D FA (CX Y A B σ hn h (wdS σ) (ddS σ) r0 r1 r2 r3 r4 (σ 0) (pak (itC (wdS σ) σ) (σ 0)) (mkP (fun k9 => decide (k9 < σ 0))) wt wn) := CX_dd hD
                    exact L195 (σ 0 - 0 + 1) 0 B hn h r0 r1 r2 r3 r4 (by omega) (kr) (khn) (kh) (Nat.lt_succ_self _) _ _ hP hD hS ls (lv_sub hl [0, 1, 2, 3, 4, 5, 6, 7] rfl)
              · refine lv_iload hx hb dL_fragile_71 (lv_at hl 1 rfl) ?_
                refine zn_if_eq (tgt := 171)  hx hb dL_fragile_73 (by decide) (by omega) (fun c73 => ?_) (fun c73 => ?_)
                · exact absurd c73 (by omega)
                · refine lv_iconst (v := (nI 0)) hx hb dL_fragile_76 (by decide) ?_
                  refine lv_istore (lv' := [(8, .int (nI 0)), (7, .int (nI j)), (6, .int (nI 1)), (5, .int (nI (frbI σ j))), (4, .int (nI (frkI σ (σ 0)))), (3, .int (nI (frbI σ (σ 0)))), (2, .int (nI (σ 2))), (1, .int (nI (σ 0))), (0, .ref (A 0))]) hx hb dL_fragile_77 hl (by decide) rfl (fun ls hl => ?_)
                  have L79 : ∀ (n9 : Nat) (i : Nat) (B : Nat → Nat) (hn : Nat) (h : Nat → Nat → Nat) (r0 : Nat → Nat) (r1 : Nat → Nat) (r2 : Nat → Nat) (r3 : Nat → Nat) (r4 : Nat → Nat) (hi : i ≤ σ 2) (kr : zCon σ r0 r1 r2 r3 r4) (khn : hn ≤ 6) (kh : ∀ i, i < hn → zWF (h i)) (hz : i = 0 ∨ ¬ zL (σ 7) j = 1), σ 2 - i < n9 → ∀ (H : Heap) (locs : List Loc), va_P D vwCl (CX Y A B σ hn h (wdS σ) (ddS σ) r0 r1 r2 r3 r4 (σ 0) (pak (itC (wdS σ) σ) (σ 0)) (mkP (fun k9 => decide (k9 < σ 0))) wt wn) H → va_D FA (CX Y A B σ hn h (wdS σ) (ddS σ) r0 r1 r2 r3 r4 (σ 0) (pak (itC (wdS σ) σ) (σ 0)) (mkP (fun k9 => decide (k9 < σ 0))) wt wn) → va_S FA s.heap H locs → ∀ ls : Array Slot, lv_has ls 9 [(8, .int (nI i)), (7, .int (nI j)), (6, .int (nI 1)), (5, .int (nI (frbI σ j + cnt (frbP σ j) i))), (4, .int (nI (frkI σ (σ 0)))), (3, .int (nI (frbI σ (σ 0)))), (2, .int (nI (σ 2))), (1, .int (nI (σ 0))), (0, .ref (A 0))] → W p l e R s m args below meth c H locs 0 0 Q (F0 m 79 ls []) := by
                    intro n9
                    induction n9 with
                    | zero => intro i B hn h r0 r1 r2 r3 r4 hi kr khn kh hz hn9; exact absurd hn9 (Nat.not_lt_zero _)
                    | succ n9 ih9 =>
                      have ih79 := ih9
                      clear ih9
                      intro i B hn h r0 r1 r2 r3 r4 hi kr khn kh hz hn9 H locs hP hD hS ls hl
                      have hci := cnt_le (frbP σ j) i
                      refine lv_iload hx hb dL_fragile_79 (lv_at hl 0 rfl) ?_
                      refine lv_iload_n hx hb dL_fragile_81 rfl (lv_at hl 6 rfl) ?_
                      refine zn_icmp_ge (tgt := 165)  hx hb dL_fragile_82 (by decide) (by omega) (by omega) (fun c82 => ?_) (fun c82 => ?_)
                      · obtain rfl : i = σ 2 := by omega
                        refine lv_iinc (v := (nI (j + 1))) (lv' := [(7, .int (nI (j + 1))), (8, .int (nI ((σ 2)))), (6, .int (nI 1)), (5, .int (nI (frbI σ j + cnt (frbP σ j) (σ 2)))), (4, .int (nI (frkI σ (σ 0)))), (3, .int (nI (frbI σ (σ 0)))), (2, .int (nI (σ 2))), (1, .int (nI (σ 0))), (0, .ref (A 0))]) hx hb dL_fragile_165 hl (k := 1) rfl (zinc _) (by decide) rfl (fun ls hl => ?_)
                        refine lv_goto (tgt := 65) hx hb dL_fragile_168 (by decide) ?_
                        rw [show (.int (nI (frbI σ j + cnt (frbP σ j) (σ 2))) : Value) = .int (nI (frbI σ (j + 1))) from congrArg _ (congrArg nI (show _ = frbI σ j + (if zL (σ 7) j = 1 then 0 else cnt (frbP σ j) (σ 2)) from by rw [if_neg (by omega)]))] at hl
                        have hP : va_P D vwCl (CX Y A B σ hn h (wdS σ) (ddS σ) r0 r1 r2 r3 r4 (σ 0) (pak (itC (wdS σ) σ) (σ 0)) (mkP (fun k9 => decide (k9 < σ 0))) wt wn) H := hP
                        have hD : va_D FA (CX Y A B σ hn h (wdS σ) (ddS σ) r0 r1 r2 r3 r4 (σ 0) (pak (itC (wdS σ) σ) (σ 0)) (mkP (fun k9 => decide (k9 < σ 0))) wt wn) := CX_dd hD
                        exact ih65 (j + 1) B hn h r0 r1 r2 r3 r4 (by omega) (kr) (khn) (kh) (by omega) H locs hP hD hS ls (lv_sub hl [0, 2, 3, 4, 5, 6, 7, 8] rfl)
                      · have hpi : 2 ^ i ≤ 2 ^ 10 := Nat.pow_le_pow_right (by decide) (by omega)
                        have hpl : 2 ^ i < 2 ^ σ 2 := Nat.pow_lt_pow_right (by decide) (by omega)
                        have hp0 := Nat.two_pow_pos i
                        refine lv_aload_n hx hb dL_fragile_85 rfl (lv_at hl 8 rfl) ?_
                        refine lv_iload hx hb dL_fragile_86 (lv_at hl 1 rfl) ?_
                        refine zc_r (va_runV (As := [.int (nI j)]) (rest := []) ⟨hx, hb, hml, hown, hts⟩ (c_X5_received l D Y A B σ hn h r0 r1 r2 r3 r4 wt wn ((nI j)) kσ kr) (cwV 1 hts gL_fragile_X5_received rfl rfl rfl (by decide +kernel) (by rw [hR]; exact ⟨Nat.le_of_ble_eq_true rfl, Nat.le_of_ble_eq_true rfl⟩)) ⟨zB_blind, va_recv hK hP (ci := 5) (q0 := 0) rfl rfl, zp_r hP hK hN⟩ rfl rfl hl.1 rfl (lv_room (Nat.le_of_ble_eq_true rfl)) dL_fragile_88 ⟨Nat.zero_le _, Nat.zero_le _⟩).run ?_
                        rcases zwL_1 (σ 7) j with hz1 | hz1
                        · have hwj := zw_1024 kσ (j := j) (by omega)
                          refine zt_i (v := (nI (σ (9 + j)))) (rcv_y (by omega) (by omega) hz1) ?_
                          refine zn_if_lt (tgt := 165)  hx hb dL_fragile_91 (by decide) (by omega) (fun c91 => ?_) (fun c91 => ?_)
                          · exact absurd c91 (by omega)
                          · refine lv_iload hx hb dL_fragile_94 (lv_at hl 2 rfl) ?_
                            refine zn_if_eq (tgt := 116)  hx hb dL_fragile_96 (by decide) (by omega) (fun c96 => ?_) (fun c96 => ?_)
                            · exact absurd c96 (by omega)
                            · refine lv_aload_n hx hb dL_fragile_99 rfl (lv_at hl 8 rfl) ?_
                              refine lv_iload hx hb dL_fragile_100 (lv_at hl 1 rfl) ?_
                              refine lv_iconst (v := (nI 1)) hx hb dL_fragile_102 (by decide) ?_
                              refine lv_iload hx hb dL_fragile_103 (lv_at hl 0 rfl) ?_
                              refine zv_ishl hx hb (v := (nI (2 ^ i))) dL_fragile_105 (by rw [zShl (by omega) (by omega), Nat.one_mul]) ?_
                              refine zc_w (va_runV (As := [.int (nI j), .int (nI (2 ^ i))]) (rest := []) ⟨hx, hb, hml, hown, hts⟩ (c_X5_flip l D Y A B σ hn h r0 r1 r2 r3 r4 wt wn j (2 ^ i) kσ kr khn (by omega) hp0 (by omega) hz1) (cwV 2 hts gL_fragile_X5_flip rfl rfl rfl (by decide +kernel) (by rw [hR]; exact ⟨Nat.le_of_ble_eq_true rfl, Nat.le_of_ble_eq_true rfl⟩)) ⟨zBw_blind, va_recv hK hP (ci := 5) (q0 := 0) rfl rfl, zp_w hP hD hK hN⟩ rfl rfl hl.1 rfl (lv_room (Nat.le_of_ble_eq_true rfl)) dL_fragile_106 ⟨Nat.zero_le _, Nat.zero_le _⟩).run hS (zA_of hD) (fun H locs hP hz hk hS => ?_)
                              have hD : va_D FA (CX Y A (recB B hn) (flpS σ j (2 ^ i)) (recN hn) (recH h hn σ) (wdS (flpS σ j (2 ^ i))) (ddS (flpS σ j (2 ^ i))) (ag0 (flpS σ j (2 ^ i)) r0) (ag1 (flpS σ j (2 ^ i)) r1) (ag2 (flpS σ j (2 ^ i)) r2) (ag3 (flpS σ j (2 ^ i)) r2 r3) (ag4 (flpS σ j (2 ^ i)) r2 r4) ((flpS σ j (2 ^ i)) 0) (pak (itC (wdS (flpS σ j (2 ^ i))) (flpS σ j (2 ^ i))) ((flpS σ j (2 ^ i)) 0)) (mkP (fun k9 => decide (k9 < (flpS σ j (2 ^ i)) 0))) wt wn) := CX_dd (CX_recD hD)
                              have kτ := zWF_flp (mk := 2 ^ i) kσ (show j < 12 by omega) (by omega)
                              have hfa : faS (flpS σ j (2 ^ i)) j ≤ 12 := faC_le _ _ _
                              have h8 : (flpS σ j (2 ^ i)) 8 = σ 8 := flp_lo _ _ _ (by decide)
                              have hrN := rec_N khn
                              refine zn_if_lt (tgt := 116)  hx hb dL_fragile_109 (by decide) (by omega) (fun c109 => ?_) (fun c109 => ?_)
                              · exact absurd c109 (by omega)
                              · refine lv_iconst (v := (nI 1)) hx hb dL_fragile_112 (by decide) ?_
                                refine lv_goto (tgt := 117) hx hb dL_fragile_113 (by decide) ?_
                                refine lv_istore (lv' := [(6, .int (nI 1)), (8, .int (nI i)), (7, .int (nI j)), (5, .int (nI (frbI σ j + cnt (frbP σ j) i))), (4, .int (nI (frkI σ (σ 0)))), (3, .int (nI (frbI σ (σ 0)))), (2, .int (nI (σ 2))), (1, .int (nI (σ 0))), (0, .ref (A 0))]) hx hb dL_fragile_117 hl (by decide) rfl (fun ls hl => ?_)
                                refine lv_iload hx hb dL_fragile_119 (lv_at hl 3 rfl) ?_
                                refine lv_aload_n hx hb dL_fragile_121 rfl (lv_at hl 8 rfl) ?_
                                refine zc_r (va_runV (As := []) (rest := [.int (nI (frbI σ j + cnt (frbP σ j) i))]) ⟨hx, hb, hml, hown, hts⟩ (c_X5_decode l D Y A (recB B hn) (flpS σ j (2 ^ i)) (recN hn) (recH h hn σ) (ag0 (flpS σ j (2 ^ i)) r0) (ag1 (flpS σ j (2 ^ i)) r1) (ag2 (flpS σ j (2 ^ i)) r2) (ag3 (flpS σ j (2 ^ i)) r2 r3) (ag4 (flpS σ j (2 ^ i)) r2 r4) wt wn  kτ (zCon_ag _ _ _ _ _ _)) (cwV 0 hts gL_fragile_X5_decode rfl rfl rfl (by decide +kernel) (by rw [hR]; exact ⟨Nat.le_of_ble_eq_true rfl, Nat.le_of_ble_eq_true rfl⟩)) ⟨zB_blind, va_recv hK hP (ci := 5) (q0 := 0) rfl rfl, zp_r hP hK hN⟩ rfl rfl hl.1 rfl (lv_room (Nat.le_of_ble_eq_true rfl)) dL_fragile_122 ⟨Nat.zero_le _, Nat.zero_le _⟩).run ?_
                                refine lv_aload_n hx hb dL_fragile_125 rfl (lv_at hl 8 rfl) ?_
                                refine zc_r (va_runV (As := []) (rest := [.int (decodeV (flpS σ j (2 ^ i))), .int (nI (frbI σ j + cnt (frbP σ j) i))]) ⟨hx, hb, hml, hown, hts⟩ (c_X5_sent l D Y A (recB B hn) (flpS σ j (2 ^ i)) (recN hn) (recH h hn σ) (ag0 (flpS σ j (2 ^ i)) r0) (ag1 (flpS σ j (2 ^ i)) r1) (ag2 (flpS σ j (2 ^ i)) r2) (ag3 (flpS σ j (2 ^ i)) r2 r3) (ag4 (flpS σ j (2 ^ i)) r2 r4) wt wn  kτ (zCon_ag _ _ _ _ _ _)) (cwV 0 hts gL_fragile_X5_sent rfl rfl rfl (by decide +kernel) (by rw [hR]; exact ⟨Nat.le_of_ble_eq_true rfl, Nat.le_of_ble_eq_true rfl⟩)) ⟨zB_blind, va_recv hK hP (ci := 5) (q0 := 0) rfl rfl, zp_r hP hK hN⟩ rfl rfl hl.1 rfl (lv_room (Nat.le_of_ble_eq_true rfl)) dL_fragile_126 ⟨Nat.zero_le _, Nat.zero_le _⟩).run ?_
                                refine zt_i (v := (nI ((flpS σ j (2 ^ i)) 8))) (rfl) ?_
                                have J137 : W p l e R s m args below meth c H locs 0 0 Q (F0 m 137 ls [.int (nI (b01 (frbP σ j i))), .int (nI (frbI σ j + cnt (frbP σ j) i))]) := by
                                  refine zv_iadd hx hb (v := (nI ((frbI σ j + cnt (frbP σ j) i) + (b01 (frbP σ j i))))) dL_fragile_137 (nI_add _ _) ?_
                                  refine lv_istore (lv' := [(5, .int (nI ((frbI σ j + cnt (frbP σ j) i) + (b01 (frbP σ j i))))), (6, .int (nI 1)), (8, .int (nI i)), (7, .int (nI j)), (4, .int (nI (frkI σ (σ 0)))), (3, .int (nI (frbI σ (σ 0)))), (2, .int (nI (σ 2))), (1, .int (nI (σ 0))), (0, .ref (A 0))]) hx hb dL_fragile_138 hl (by decide) rfl (fun ls hl => ?_)
                                  refine lv_iload hx hb dL_fragile_140 (lv_at hl 1 rfl) ?_
                                  refine zn_if_eq (tgt := 156)  hx hb dL_fragile_142 (by decide) (by omega) (fun c142 => ?_) (fun c142 => ?_)
                                  · exact absurd c142 (by omega)
                                  · refine lv_aload_n hx hb dL_fragile_145 rfl (lv_at hl 8 rfl) ?_
                                    refine zc_w (va_runV (As := []) (rest := []) ⟨hx, hb, hml, hown, hts⟩ (c_X5_undoT l D Y A (recB B hn) (flpS σ j (2 ^ i)) (recN hn) (recH h hn σ) (ag0 (flpS σ j (2 ^ i)) r0) (ag1 (flpS σ j (2 ^ i)) r1) (ag2 (flpS σ j (2 ^ i)) r2) (ag3 (flpS σ j (2 ^ i)) r2 r3) (ag4 (flpS σ j (2 ^ i)) r2 r4) wt wn σ kτ (zCon_ag _ _ _ _ _ _) (rec_N khn).1 (rec_N khn).2.1 rec_top kσ) (cwV 0 hts gL_fragile_X5_undo rfl rfl rfl (by decide +kernel) (by rw [hR]; exact ⟨Nat.le_of_ble_eq_true rfl, Nat.le_of_ble_eq_true rfl⟩)) ⟨zBw_blind, va_recv hK hP (ci := 5) (q0 := 0) rfl rfl, zp_w hP hD hK hN⟩ rfl rfl hl.1 rfl (lv_room (Nat.le_of_ble_eq_true rfl)) dL_fragile_146 ⟨Nat.zero_le _, Nat.zero_le _⟩).run hS (zA_of hD) (fun H locs hP hz hk hS => ?_)
                                    have hD : va_D FA (CX Y A (recB B hn) σ ((recN hn) - 1) (recH h hn σ) (wdS σ) (ddS σ) (ag0 σ (ag0 (flpS σ j (2 ^ i)) r0)) (ag1 σ (ag1 (flpS σ j (2 ^ i)) r1)) (ag2 σ (ag2 (flpS σ j (2 ^ i)) r2)) (ag3 σ (ag2 (flpS σ j (2 ^ i)) r2) (ag3 (flpS σ j (2 ^ i)) r2 r3)) (ag4 σ (ag2 (flpS σ j (2 ^ i)) r2) (ag4 (flpS σ j (2 ^ i)) r2 r4)) (σ 0) (pak (itC (wdS σ) σ) (σ 0)) (mkP (fun k9 => decide (k9 < σ 0))) wt wn) := CX_dd hD
                                    refine zn_if_lt (tgt := 156)  hx hb dL_fragile_149 (by decide) (by omega) (fun c149 => ?_) (fun c149 => ?_)
                                    · exact absurd c149 (by omega)
                                    · refine lv_iconst (v := (nI 1)) hx hb dL_fragile_152 (by decide) ?_
                                      refine lv_goto (tgt := 157) hx hb dL_fragile_153 (by decide) ?_
                                      refine lv_istore (lv' := [(6, .int (nI 1)), (5, .int (nI ((frbI σ j + cnt (frbP σ j) i) + (b01 (frbP σ j i))))), (8, .int (nI i)), (7, .int (nI j)), (4, .int (nI (frkI σ (σ 0)))), (3, .int (nI (frbI σ (σ 0)))), (2, .int (nI (σ 2))), (1, .int (nI (σ 0))), (0, .ref (A 0))]) hx hb dL_fragile_157 hl (by decide) rfl (fun ls hl => ?_)
                                      refine lv_iinc (v := (nI (i + 1))) (lv' := [(8, .int (nI (i + 1))), (6, .int (nI 1)), (5, .int (nI ((frbI σ j + cnt (frbP σ j) i) + (b01 (frbP σ j i))))), (7, .int (nI j)), (4, .int (nI (frkI σ (σ 0)))), (3, .int (nI (frbI σ (σ 0)))), (2, .int (nI (σ 2))), (1, .int (nI (σ 0))), (0, .ref (A 0))]) hx hb dL_fragile_159 hl (k := 2) rfl (zinc _) (by decide) rfl (fun ls hl => ?_)
                                      refine lv_goto (tgt := 79) hx hb dL_fragile_162 (by decide) ?_
                                      rw [show (.int (nI ((frbI σ j + cnt (frbP σ j) i) + (b01 (frbP σ j i)))) : Value) = .int (nI (frbI σ j + cnt (frbP σ j) (i + 1))) from congrArg _ (congrArg nI (show _ = frbI σ j + (cnt (frbP σ j) i + b01 (frbP σ j i)) from Nat.add_assoc _ _ _))] at hl
                                      have hP : va_P D vwCl (CX Y A ((recB B hn)) σ (((recN hn) - 1)) ((recH h hn σ)) (wdS σ) (ddS σ) ((ag0 σ (ag0 (flpS σ j (2 ^ i)) r0))) ((ag1 σ (ag1 (flpS σ j (2 ^ i)) r1))) ((ag2 σ (ag2 (flpS σ j (2 ^ i)) r2))) ((ag3 σ (ag2 (flpS σ j (2 ^ i)) r2) (ag3 (flpS σ j (2 ^ i)) r2 r3))) ((ag4 σ (ag2 (flpS σ j (2 ^ i)) r2) (ag4 (flpS σ j (2 ^ i)) r2 r4))) (σ 0) (pak (itC (wdS σ) σ) (σ 0)) (mkP (fun k9 => decide (k9 < σ 0))) wt wn) H := hP
                                      have hD : va_D FA (CX Y A ((recB B hn)) σ (((recN hn) - 1)) ((recH h hn σ)) (wdS σ) (ddS σ) ((ag0 σ (ag0 (flpS σ j (2 ^ i)) r0))) ((ag1 σ (ag1 (flpS σ j (2 ^ i)) r1))) ((ag2 σ (ag2 (flpS σ j (2 ^ i)) r2))) ((ag3 σ (ag2 (flpS σ j (2 ^ i)) r2) (ag3 (flpS σ j (2 ^ i)) r2 r3))) ((ag4 σ (ag2 (flpS σ j (2 ^ i)) r2) (ag4 (flpS σ j (2 ^ i)) r2 r4))) (σ 0) (pak (itC (wdS σ) σ) (σ 0)) (mkP (fun k9 => decide (k9 < σ 0))) wt wn) := CX_dd hD
                                      exact ih79 (i + 1) (recB B hn) ((recN hn) - 1) (recH h hn σ) (ag0 σ (ag0 (flpS σ j (2 ^ i)) r0)) (ag1 σ (ag1 (flpS σ j (2 ^ i)) r1)) (ag2 σ (ag2 (flpS σ j (2 ^ i)) r2)) (ag3 σ (ag2 (flpS σ j (2 ^ i)) r2) (ag3 (flpS σ j (2 ^ i)) r2 r3)) (ag4 σ (ag2 (flpS σ j (2 ^ i)) r2) (ag4 (flpS σ j (2 ^ i)) r2 r4)) (by omega) (zCon_ag _ _ _ _ _ _) (by omega) (fun q9 h9 => rec_K kσ kh q9 (by omega)) (Or.inr (by omega)) (by omega) H locs hP hD hS ls (lv_sub hl [0, 3, 1, 2, 4, 5, 6, 7, 8] rfl)
                                refine zz_icmp_ne (tgt := 136) (a := (decodeV (flpS σ j (2 ^ i))).toInt) (b := ((((flpS σ j (2 ^ i)) 8 : Nat)) : Int)) hx hb dL_fragile_129 (by decide) (rfl) (zt_n (by omega)) (fun c129 => ?_) (fun c129 => ?_)
                                · refine lv_iconst (v := (nI 1)) hx hb dL_fragile_136 (by decide) ?_
                                  refine zt_i (v := (nI (b01 (frbP σ j i)))) (by first | exact congrArg nI (frb_y (by omega) (by omega) ((right_iff kτ).mp c129)) | exact congrArg nI (frb_n (by omega) (by omega) (fun z9 => c129 ((right_iff kτ).mpr z9)))) ?_
                                  exact J137
                                · refine lv_iconst (v := (nI 0)) hx hb dL_fragile_132 (by decide) ?_
                                  refine lv_goto (tgt := 137) hx hb dL_fragile_133 (by decide) ?_
                                  refine zt_i (v := (nI (b01 (frbP σ j i)))) (by first | exact congrArg nI (frb_y (by omega) (by omega) ((right_iff kτ).mp c129)) | exact congrArg nI (frb_n (by omega) (by omega) (fun z9 => c129 ((right_iff kτ).mpr z9)))) ?_
                                  exact J137
                        · refine zt_i (v := (-1004)) (rcv_n (by omega) (by omega) hz1) ?_
                          refine zz_if_lt (tgt := 165) (a := -1004) hx hb dL_fragile_91 (by decide) (by decide) (fun c91 => ?_) (fun c91 => ?_)
                          · obtain rfl : i = 0 := by omega
                            refine lv_iinc (v := (nI (j + 1))) (lv' := [(7, .int (nI (j + 1))), (8, .int (nI 0)), (6, .int (nI 1)), (5, .int (nI (frbI σ j + cnt (frbP σ j) 0))), (4, .int (nI (frkI σ (σ 0)))), (3, .int (nI (frbI σ (σ 0)))), (2, .int (nI (σ 2))), (1, .int (nI (σ 0))), (0, .ref (A 0))]) hx hb dL_fragile_165 hl (k := 1) rfl (zinc _) (by decide) rfl (fun ls hl => ?_)
                            refine lv_goto (tgt := 65) hx hb dL_fragile_168 (by decide) ?_
                            rw [show (.int (nI (frbI σ j + cnt (frbP σ j) 0)) : Value) = .int (nI (frbI σ (j + 1))) from congrArg _ (congrArg nI (show _ = frbI σ j + (if zL (σ 7) j = 1 then 0 else cnt (frbP σ j) (σ 2)) from by rw [if_pos (by omega)]; rfl))] at hl
                            have hP : va_P D vwCl (CX Y A B σ hn h (wdS σ) (ddS σ) r0 r1 r2 r3 r4 (σ 0) (pak (itC (wdS σ) σ) (σ 0)) (mkP (fun k9 => decide (k9 < σ 0))) wt wn) H := hP
                            have hD : va_D FA (CX Y A B σ hn h (wdS σ) (ddS σ) r0 r1 r2 r3 r4 (σ 0) (pak (itC (wdS σ) σ) (σ 0)) (mkP (fun k9 => decide (k9 < σ 0))) wt wn) := CX_dd hD
                            exact ih65 (j + 1) B hn h r0 r1 r2 r3 r4 (by omega) (kr) (khn) (kh) (by omega) H locs hP hD hS ls (lv_sub hl [0, 2, 3, 4, 5, 6, 7, 8] rfl)
                          · exact absurd c91 (by omega)
                  rw [show (.int (nI (frbI σ j)) : Value) = .int (nI (frbI σ j + cnt (frbP σ j) 0)) from congrArg _ (congrArg nI (show frbI σ j = frbI σ j + cnt (frbP σ j) 0 from rfl))] at hl
                  have hP : va_P D vwCl (CX Y A B σ hn h (wdS σ) (ddS σ) r0 r1 r2 r3 r4 (σ 0) (pak (itC (wdS σ) σ) (σ 0)) (mkP (fun k9 => decide (k9 < σ 0))) wt wn) H := hP
                  have hD : va_D FA (CX Y A B σ hn h (wdS σ) (ddS σ) r0 r1 r2 r3 r4 (σ 0) (pak (itC (wdS σ) σ) (σ 0)) (mkP (fun k9 => decide (k9 < σ 0))) wt wn) := CX_dd hD
                  exact L79 (σ 2 - 0 + 1) 0 B hn h r0 r1 r2 r3 r4 (by omega) (kr) (khn) (kh) (Or.inl rfl) (Nat.lt_succ_self _) _ _ hP hD hS ls (lv_sub hl [0, 1, 2, 3, 4, 5, 6, 7, 8] rfl)
          have hP : va_P D vwCl (CX Y A B σ hn h (wdS σ) (ddS σ) r0 r1 r2 r3 r4 (σ 0) (pak (itC (wdS σ) σ) (σ 0)) (mkP (fun k9 => decide (k9 < σ 0))) wt wn) H := hP
          have hD : va_D FA (CX Y A B σ hn h (wdS σ) (ddS σ) r0 r1 r2 r3 r4 (σ 0) (pak (itC (wdS σ) σ) (σ 0)) (mkP (fun k9 => decide (k9 < σ 0))) wt wn) := CX_dd hD
          exact L65 (σ 0 - 0 + 1) 0 B hn h r0 r1 r2 r3 r4 (by omega) (kr) (khn) (kh) (Nat.lt_succ_self _) _ _ hP hD hS ls (lv_sub hl [0, 1, 2, 3, 4, 5, 6, 7] rfl)
