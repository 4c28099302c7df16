set_option maxHeartbeats 8000000 in
set_option maxRecDepth 100000 in
theorem law_main {p : Program} {e : Env} {s : State} {m : MethodId} {below : List Frame} {meth : Method} {c : Code} (l : Launch) {b L : Nat} {xs : Nat → Int32} (hL : L ≤ 260) (C0 : lw_At p s m meth c b L xs) {D : va_G} {Y : Nat → ClassId} (hK : va_K D vwCl (zT Y) s) (hN : zNw s) (FA : Nat → Prop) (hFA : FA = fun q => s.heap.size ≤ q) (A : Nat → Nat) (B : Nat → Nat) (σ : Nat → Nat) (hn : Nat) (h : Nat → Nat → Nat) (r0 : Nat → Nat) (r1 : Nat → Nat) (r2 : Nat → Nat) (r3 : Nat → Nat) (r4 : Nat → Nat) (wt : Nat → Nat) (wn : Nat) (kσ : zWF σ) (kr : zCon σ r0 r1 r2 r3 r4) (khn : hn ≤ 6) (kh : ∀ i, i < hn → zWF (h i)) (h83 : 10 * σ 0 + σ 1 = 83) (hwn : wn = 0) (H : Heap) (locs : List Loc) (hP : va_P D vwCl (CX Y A B σ hn h (wdS σ) (ddS σ) r0 r1 r2 r3 r4 (σ 0) (pak (itC (wdS σ) σ) (σ 0)) (mkP (fun k9 => decide (k9 < σ 0))) wt wn) H) (hD : va_D FA (CX Y A B σ hn h (wdS σ) (ddS σ) r0 r1 r2 r3 r4 (σ 0) (pak (itC (wdS σ) σ) (σ 0)) (mkP (fun k9 => decide (k9 < σ 0))) wt wn)) (hS : va_S FA s.heap H locs) (ls : Array Slot) (hl : lv_has ls 14 [(1, .ref (A 0)), (0, .ref b)]) : W p l e room_1 s m #[Value.ref b] below meth c H locs 42 399 (lw_Z below #[Value.ref b] s) (F0 m 8 ls []) := by
  obtain ⟨hx, hb, hr, hml, hown9, hts0, hX, hbl, hlk, hgv⟩ := id C0
  have hown : s.vm.findClass RL = some m.cls := hown9
  have hts : ∀ w ∈ wsL_law, w.before #[Value.ref b] s = true := fun w hw => hts0 w (wsL_law_in w hw)
  have hbA : ¬ FA b := by rw [hFA]; exact Nat.not_le.mpr hbl
  refine lv_iconst (v := (nI 3)) hx hb dL_law_8 (by decide) ?_
  refine lv_aload_n hx hb dL_law_9 rfl (lv_at hl 1 rfl) ?_
  refine lv_iconst (v := (nI 0)) hx hb dL_law_10 (by decide) ?_
  refine zc_r (va_runS (As := [.ref (b), .int (nI 0)]) (rest := [.int (nI 3)]) ⟨hx, hb, hml, hown, hts⟩ (c_L_cell l b L xs 0 (by omega) hL) (va_cwS 2 hts gL_law_L_cell rfl rfl rfl (by decide +kernel) ⟨Nat.le_of_ble_eq_true rfl, Nat.le_of_ble_eq_true rfl⟩) ⟨zX_blind, zp_X hX hbl hbA hS⟩ rfl rfl hl.1 rfl (lv_room (Nat.le_of_ble_eq_true rfl)) dL_law_11 ⟨Nat.le_of_ble_eq_true rfl, Nat.le_of_ble_eq_true rfl⟩).run ?_
  have hy11 := celV_lt L xs 0
  generalize celV L xs 0 = y11 at hy11 ⊢
  refine lv_bipush (v := (nI 7)) hx hb dL_law_14 (by decide) ?_
  refine zv_irem hx hb (v := (nI (y11 % 7))) dL_law_16 (by omega) (by omega) (zrem (by omega) (by omega) (by omega)) ?_
  refine zv_iadd hx hb (v := (nI (3 + (y11 % 7)))) dL_law_17 (nI_add _ _) ?_
  obtain ⟨n0, en0⟩ : ∃ z9, z9 = 3 + y11 % 7 := ⟨_, rfl⟩
  refine zt_i (v := (nI n0)) (by rw [en0]) ?_
  refine lv_istore_n (lv' := [(2, .int (nI n0)), (1, .ref (A 0)), (0, .ref (b))]) hx hb dL_law_18 rfl hl (by decide) rfl (fun ls hl => ?_)
  refine lv_iconst (v := (nI 1)) hx hb dL_law_19 (by decide) ?_
  refine lv_aload_n hx hb dL_law_20 rfl (lv_at hl 2 rfl) ?_
  refine lv_iconst (v := (nI 1)) hx hb dL_law_21 (by decide) ?_
  refine zc_r (va_runS (As := [.ref (b), .int (nI 1)]) (rest := [.int (nI 1)]) ⟨hx, hb, hml, hown, hts⟩ (c_L_cell l b L xs 1 (by omega) hL) (va_cwS 2 hts gL_law_L_cell rfl rfl rfl (by decide +kernel) ⟨Nat.le_of_ble_eq_true rfl, Nat.le_of_ble_eq_true rfl⟩) ⟨zX_blind, zp_X hX hbl hbA hS⟩ rfl rfl hl.1 rfl (lv_room (Nat.le_of_ble_eq_true rfl)) dL_law_22 ⟨Nat.le_of_ble_eq_true rfl, Nat.le_of_ble_eq_true rfl⟩).run ?_
  have hy22 := celV_lt L xs 1
  generalize celV L xs 1 = y22 at hy22 ⊢
  refine lv_iconst (v := (nI 2)) hx hb dL_law_25 (by decide) ?_
  refine zv_irem hx hb (v := (nI (y22 % 2))) dL_law_26 (by omega) (by omega) (zrem (by omega) (by omega) (by omega)) ?_
  refine zv_iadd hx hb (v := (nI (1 + (y22 % 2)))) dL_law_27 (nI_add _ _) ?_
  obtain ⟨k0, ek0⟩ : ∃ z9, z9 = 1 + y22 % 2 := ⟨_, rfl⟩
  have hpk := zp_k (k := k0) (by omega)
  have hpk0 := Nat.two_pow_pos (4 * k0)
  refine zt_i (v := (nI k0)) (by rw [ek0]) ?_
  refine lv_istore_n (lv' := [(3, .int (nI k0)), (2, .int (nI n0)), (1, .ref (A 0)), (0, .ref (b))]) hx hb dL_law_28 rfl hl (by decide) rfl (fun ls hl => ?_)
  refine lv_aload_n hx hb dL_law_29 rfl (lv_at hl 2 rfl) ?_
  refine lv_iload_n hx hb dL_law_30 rfl (lv_at hl 1 rfl) ?_
  refine lv_iload_n hx hb dL_law_31 rfl (lv_at hl 0 rfl) ?_
  refine zc_w (va_runV (As := [.int (nI n0), .int (nI k0)]) (rest := []) ⟨hx, hb, hml, hown, hts⟩ (c_X5_setOuter l D Y A B σ hn h r0 r1 r2 r3 r4 wt wn n0 k0 kσ kr khn (by omega) (by omega) (by omega) (by omega) (by omega)) (cwV 2 hts gL_law_X5_setOuter rfl rfl rfl (by decide +kernel) ⟨Nat.le_of_ble_eq_true rfl, Nat.le_of_ble_eq_true rfl⟩) ⟨zBw_blind, va_recv hK hP (ci := 5) (q0 := 0) rfl rfl, zp_w hP hD hK hN⟩ rfl rfl hl.1 rfl (lv_room (Nat.le_of_ble_eq_true rfl)) dL_law_32 ⟨Nat.le_of_ble_eq_true rfl, Nat.le_of_ble_eq_true rfl⟩).run hS (zA_of hD) (fun H locs hP hz hk hS => ?_)
  have hD : va_D FA (CX Y A (recB B hn) (outS σ n0 k0) (recN hn) (recH h hn σ) (wdS (outS σ n0 k0)) (ddS (outS σ n0 k0)) (ag0 (outS σ n0 k0) r0) (ag1 (outS σ n0 k0) r1) (ag2 (outS σ n0 k0) r2) (ag3 (outS σ n0 k0) r2 r3) (ag4 (outS σ n0 k0) r2 r4) ((outS σ n0 k0) 0) (pak (itC (wdS (outS σ n0 k0)) (outS σ n0 k0)) ((outS σ n0 k0) 0)) (mkP (fun k9 => decide (k9 < (outS σ n0 k0) 0))) wt wn) := CX_dd (CX_recD hD)
  have kτ0 := zWF_out kσ (i := n0) (k := k0) (by omega) (by omega) (by omega) (by omega) (by omega)
  obtain ⟨hq1, hq2, hq3, hq4, hq5⟩ := cl_all kτ0 (cl_out (by omega))
  refine lv_bipush (v := (nI 83)) hx hb dL_law_35 (by decide) ?_
  refine zn_icmp_ne (tgt := 59)  hx hb dL_law_37 (by decide) (by omega) (by omega) (fun c37 => ?_) (fun c37 => ?_)
  · exact absurd c37 (by omega)
  · refine lv_aload_n hx hb dL_law_40 rfl (lv_at hl 2 rfl) ?_
    refine zc_r (va_runS (As := [.ref (A 0)]) (rest := []) ⟨hx, hb, hml, hown, hts⟩ (c_L_holds l D Y A (recB B hn) (outS σ n0 k0) (recN hn) (recH h hn σ) (ag0 (outS σ n0 k0) r0) (ag1 (outS σ n0 k0) r1) (ag2 (outS σ n0 k0) r2) (ag3 (outS σ n0 k0) r2 r3) (ag4 (outS σ n0 k0) r2 r4) wt wn  kτ0 (zCon_ag _ _ _ _ _ _)) (va_cwS 1 hts gL_law_L_holds rfl rfl rfl (by decide +kernel) ⟨Nat.le_of_ble_eq_true rfl, Nat.le_of_ble_eq_true rfl⟩) ⟨zB_blind, zp_r hP hK hN⟩ rfl rfl hl.1 rfl (lv_room (Nat.le_of_ble_eq_true rfl)) dL_law_41 ⟨Nat.le_of_ble_eq_true rfl, Nat.le_of_ble_eq_true rfl⟩).run ?_
    refine zn_if_eq (tgt := 59)  hx hb dL_law_44 (by decide) (by omega) (fun c44 => ?_) (fun c44 => ?_)
    · exact absurd c44 (by omega)
    · refine lv_aload_n hx hb dL_law_47 rfl (lv_at hl 2 rfl) ?_
      refine zc_r (va_runV (As := []) (rest := []) ⟨hx, hb, hml, hown, hts⟩ (c_X5_isGuaranteed l D Y A (recB B hn) (outS σ n0 k0) (recN hn) (recH h hn σ) (ag0 (outS σ n0 k0) r0) (ag1 (outS σ n0 k0) r1) (ag2 (outS σ n0 k0) r2) (ag3 (outS σ n0 k0) r2 r3) (ag4 (outS σ n0 k0) r2 r4) wt wn  kτ0 (zCon_ag _ _ _ _ _ _)) (cwV 0 hts gL_law_X5_isGuaranteed rfl rfl rfl (by decide +kernel) ⟨Nat.le_of_ble_eq_true rfl, Nat.le_of_ble_eq_true rfl⟩) ⟨zB_blind, va_recv hK hP (ci := 5) (q0 := 0) rfl rfl, zp_r hP hK hN⟩ rfl rfl hl.1 rfl (lv_room (Nat.le_of_ble_eq_true rfl)) dL_law_48 ⟨Nat.le_of_ble_eq_true rfl, Nat.le_of_ble_eq_true rfl⟩).run ?_
      refine zt_i (v := (nI 1)) (hq5) ?_
      refine lv_iconst (v := (nI 1)) hx hb dL_law_51 (by decide) ?_
      refine zn_icmp_ne (tgt := 59)  hx hb dL_law_52 (by decide) (by omega) (by omega) (fun c52 => ?_) (fun c52 => ?_)
      · exact absurd c52 (by omega)
      · refine lv_iconst (v := (nI 1)) hx hb dL_law_55 (by decide) ?_
        refine lv_goto (tgt := 60) hx hb dL_law_56 (by decide) ?_
        refine lv_istore (lv' := [(4, .int (nI 1)), (3, .int (nI k0)), (2, .int (nI n0)), (1, .ref (A 0)), (0, .ref (b))]) hx hb dL_law_60 hl (by decide) rfl (fun ls hl => ?_)
        refine lv_iconst (v := (nI 0)) hx hb dL_law_62 (by decide) ?_
        refine lv_istore (lv' := [(5, .int (nI 0)), (4, .int (nI 1)), (3, .int (nI k0)), (2, .int (nI n0)), (1, .ref (A 0)), (0, .ref (b))]) hx hb dL_law_63 hl (by decide) rfl (fun ls hl => ?_)
        have L65 : ∀ (n9 : Nat) (round : Nat) (B : Nat → Nat) (σ : Nat → Nat) (hn : Nat) (h : Nat → Nat → Nat) (r0 : Nat → Nat) (r1 : Nat → Nat) (r2 : Nat → Nat) (r3 : Nat → Nat) (r4 : Nat → Nat) (hrd : round ≤ 4) (kσ : zWF σ) (kr : zCon σ r0 r1 r2 r3 r4) (khn : hn ≤ 6) (kh : ∀ i, i < hn → zWF (h i)) (hs0 : σ 0 = n0) (hs1 : σ 1 = k0) (h2 : round = 0 ∨ 2 ≤ hn), 4 - round < n9 → ∀ (H : Heap) (locs : List Loc), va_P D vwCl (CX Y A B σ hn h (wdS σ) (ddS σ) r0 r1 r2 r3 r4 (σ 0) (pak (itC (wdS σ) σ) (σ 0)) (mkP (fun k9 => decide (k9 < σ 0))) wt wn) H → va_D FA (CX Y A B σ hn h (wdS σ) (ddS σ) r0 r1 r2 r3 r4 (σ 0) (pak (itC (wdS σ) σ) (σ 0)) (mkP (fun k9 => decide (k9 < σ 0))) wt wn) → va_S FA s.heap H locs → ∀ ls : Array Slot, lv_has ls 14 [(5, .int (nI round)), (4, .int (nI 1)), (3, .int (nI k0)), (2, .int (nI n0)), (1, .ref (A 0)), (0, .ref (b))] → W p l e room_1 s m #[Value.ref b] below meth c H locs 42 399 (lw_Z below #[Value.ref b] s) (F0 m 65 ls []) := by
          intro n9
          induction n9 with
          | zero => intro round B σ hn h r0 r1 r2 r3 r4 hrd kσ kr khn kh hs0 hs1 h2 hn9; exact absurd hn9 (Nat.not_lt_zero _)
          | succ n9 ih9 =>
            have ih65 := ih9
            clear ih9
            intro round B σ hn h r0 r1 r2 r3 r4 hrd kσ kr khn kh hs0 hs1 h2 hn9 H locs hP hD hS ls hl
            obtain ⟨n3, n12, d1, d3, dn, b4, b10, gl, lm, sn, wl, wnz⟩ := id kσ
            have hnb : n0 * σ 2 = σ 2 * σ 0 := by rw [← hs0, Nat.mul_comm]
            have hnb0 : 0 < n0 * σ 2 := Nat.mul_pos (by omega) (by omega)
            have hnb1 : n0 * σ 2 ≤ 12 * 10 := Nat.mul_le_mul (by omega) b10
            have hrN := rec_N khn
            refine lv_iload hx hb dL_law_65 (lv_at hl 0 rfl) ?_
            refine lv_iconst (v := (nI 4)) hx hb dL_law_67 (by decide) ?_
            refine zn_icmp_ge (tgt := 426)  hx hb dL_law_68 (by decide) (by omega) (by omega) (fun c68 => ?_) (fun c68 => ?_)
            · refine lv_aload_n hx hb dL_law_426 rfl (lv_at hl 4 rfl) ?_
              refine lv_bipush (v := (nI 6)) hx hb dL_law_427 (by decide) ?_
              refine zc_r (va_runV (As := [.int (nI 6)]) (rest := []) ⟨hx, hb, hml, hown, hts⟩ (c_X5_count l D Y A B σ hn h r0 r1 r2 r3 r4 wt wn ((nI 6)) kσ kr) (cwV 1 hts gL_law_X5_count rfl rfl rfl (by decide +kernel) ⟨Nat.le_of_ble_eq_true rfl, Nat.le_of_ble_eq_true rfl⟩) ⟨zB_blind, va_recv hK hP (ci := 5) (q0 := 0) rfl rfl, zp_r hP hK hN⟩ rfl rfl hl.1 rfl (lv_room (Nat.le_of_ble_eq_true rfl)) dL_law_429 ⟨Nat.le_of_ble_eq_true rfl, Nat.le_of_ble_eq_true rfl⟩).run ?_
              refine zt_i (v := (nI hn)) (cV6 _ _ _) ?_
              refine lv_istore (lv' := [(5, .int (nI hn)), (4, .int (nI 1)), (3, .int (nI k0)), (2, .int (nI n0)), (1, .ref (A 0)), (0, .ref (b))]) hx hb dL_law_432 hl (by decide) rfl (fun ls hl => ?_)
              refine lv_iload hx hb dL_law_434 (lv_at hl 1 rfl) ?_
              refine zn_if_eq (tgt := 477)  hx hb dL_law_436 (by decide) (by omega) (fun c436 => ?_) (fun c436 => ?_)
              · exact absurd c436 (by omega)
              · refine lv_iload hx hb dL_law_439 (lv_at hl 0 rfl) ?_
                refine zn_if_le (tgt := 477)  hx hb dL_law_441 (by decide) (by omega) (fun c441 => ?_) (fun c441 => ?_)
                · exact absurd c441 (by omega)
                · refine lv_aload_n hx hb dL_law_444 rfl (lv_at hl 4 rfl) ?_
                  refine zc_w (va_runV (As := []) (rest := []) ⟨hx, hb, hml, hown, hts⟩ (c_X5_undo l D Y A B σ hn h r0 r1 r2 r3 r4 wt wn  kσ kr khn (by omega) (kh (hn - 1) (by omega))) (cwV 0 hts gL_law_X5_undo rfl rfl rfl (by decide +kernel) ⟨Nat.le_of_ble_eq_true rfl, Nat.le_of_ble_eq_true rfl⟩) ⟨zBw_blind, va_recv hK hP (ci := 5) (q0 := 0) rfl rfl, zp_w hP hD hK hN⟩ rfl rfl hl.1 rfl (lv_room (Nat.le_of_ble_eq_true rfl)) dL_law_445 ⟨Nat.le_of_ble_eq_true rfl, Nat.le_of_ble_eq_true rfl⟩).run hS (zA_of hD) (fun H locs hP hz hk hS => ?_)
                  have hD : va_D FA (CX Y A B (h (hn - 1)) (hn - 1) h (wdS (h (hn - 1))) (ddS (h (hn - 1))) (ag0 (h (hn - 1)) r0) (ag1 (h (hn - 1)) r1) (ag2 (h (hn - 1)) r2) (ag3 (h (hn - 1)) r2 r3) (ag4 (h (hn - 1)) r2 r4) ((h (hn - 1)) 0) (pak (itC (wdS (h (hn - 1))) (h (hn - 1))) ((h (hn - 1)) 0)) (mkP (fun k9 => decide (k9 < (h (hn - 1)) 0))) wt wn) := CX_dd hD
                  refine lv_iload hx hb dL_law_448 (lv_at hl 0 rfl) ?_
                  refine lv_iconst (v := (nI 1)) hx hb dL_law_450 (by decide) ?_
                  refine zv_isub hx hb (v := (nI (hn - 1))) dL_law_451 (pk_sub (by omega)) ?_
                  refine zn_icmp_ne (tgt := 477)  hx hb dL_law_452 (by decide) (by omega) (by omega) (fun c452 => ?_) (fun c452 => ?_)
                  · exact absurd c452 (by omega)
                  · refine lv_aload_n hx hb dL_law_455 rfl (lv_at hl 4 rfl) ?_
                    refine zc_w (va_runV (As := []) (rest := []) ⟨hx, hb, hml, hown, hts⟩ (c_X5_undo l D Y A B (h (hn - 1)) (hn - 1) h (ag0 (h (hn - 1)) r0) (ag1 (h (hn - 1)) r1) (ag2 (h (hn - 1)) r2) (ag3 (h (hn - 1)) r2 r3) (ag4 (h (hn - 1)) r2 r4) wt wn  (kh (hn - 1) (by omega)) (zCon_ag _ _ _ _ _ _) (by omega) (by omega) (kh (hn - 1 - 1) (by omega))) (cwV 0 hts gL_law_X5_undo rfl rfl rfl (by decide +kernel) ⟨Nat.le_of_ble_eq_true rfl, Nat.le_of_ble_eq_true rfl⟩) ⟨zBw_blind, va_recv hK hP (ci := 5) (q0 := 0) rfl rfl, zp_w hP hD hK hN⟩ rfl rfl hl.1 rfl (lv_room (Nat.le_of_ble_eq_true rfl)) dL_law_456 ⟨Nat.le_of_ble_eq_true rfl, Nat.le_of_ble_eq_true rfl⟩).run hS (zA_of hD) (fun H locs hP hz hk hS => ?_)
                    have hD : va_D FA (CX Y A B (h ((hn - 1) - 1)) ((hn - 1) - 1) h (wdS (h ((hn - 1) - 1))) (ddS (h ((hn - 1) - 1))) (ag0 (h ((hn - 1) - 1)) (ag0 (h (hn - 1)) r0)) (ag1 (h ((hn - 1) - 1)) (ag1 (h (hn - 1)) r1)) (ag2 (h ((hn - 1) - 1)) (ag2 (h (hn - 1)) r2)) (ag3 (h ((hn - 1) - 1)) (ag2 (h (hn - 1)) r2) (ag3 (h (hn - 1)) r2 r3)) (ag4 (h ((hn - 1) - 1)) (ag2 (h (hn - 1)) r2) (ag4 (h (hn - 1)) r2 r4)) ((h ((hn - 1) - 1)) 0) (pak (itC (wdS (h ((hn - 1) - 1))) (h ((hn - 1) - 1))) ((h ((hn - 1) - 1)) 0)) (mkP (fun k9 => decide (k9 < (h ((hn - 1) - 1)) 0))) wt wn) := CX_dd hD
                    refine lv_iload hx hb dL_law_459 (lv_at hl 0 rfl) ?_
                    refine lv_iconst (v := (nI 2)) hx hb dL_law_461 (by decide) ?_
                    refine zv_isub hx hb (v := (nI (hn - 2))) dL_law_462 (pk_sub (by omega)) ?_
                    refine zn_icmp_ne (tgt := 477)  hx hb dL_law_463 (by decide) (by omega) (by omega) (fun c463 => ?_) (fun c463 => ?_)
                    · exact absurd c463 (by omega)
                    · refine lv_aload_n hx hb dL_law_466 rfl (lv_at hl 4 rfl) ?_
                      refine zc_w (va_runV (As := []) (rest := []) ⟨hx, hb, hml, hown, hts⟩ (c_X5_clearGenerators l D Y A B (h ((hn - 1) - 1)) ((hn - 1) - 1) h (ag0 (h ((hn - 1) - 1)) (ag0 (h (hn - 1)) r0)) (ag1 (h ((hn - 1) - 1)) (ag1 (h (hn - 1)) r1)) (ag2 (h ((hn - 1) - 1)) (ag2 (h (hn - 1)) r2)) (ag3 (h ((hn - 1) - 1)) (ag2 (h (hn - 1)) r2) (ag3 (h (hn - 1)) r2 r3)) (ag4 (h ((hn - 1) - 1)) (ag2 (h (hn - 1)) r2) (ag4 (h (hn - 1)) r2 r4)) wt wn  (kh (hn - 1 - 1) (by omega)) (zCon_ag _ _ _ _ _ _)) (cwV 0 hts gL_law_X5_clearGenerators rfl rfl rfl (by decide +kernel) ⟨Nat.le_of_ble_eq_true rfl, Nat.le_of_ble_eq_true rfl⟩) ⟨zBw_blind, va_recv hK hP (ci := 5) (q0 := 0) rfl rfl, zp_w hP hD hK hN⟩ rfl rfl hl.1 rfl (lv_room (Nat.le_of_ble_eq_true rfl)) dL_law_467 ⟨Nat.le_of_ble_eq_true rfl, Nat.le_of_ble_eq_true rfl⟩).run hS (zA_of hD) (fun H locs hP hz hk hS => ?_)
                      have hD : va_D FA (CX Y A B (h ((hn - 1) - 1)) ((hn - 1) - 1) h (wdS (h ((hn - 1) - 1))) (ddS (h ((hn - 1) - 1))) (ag0 (h ((hn - 1) - 1)) (ag0 (h (hn - 1)) r0)) (ag1 (h ((hn - 1) - 1)) (ag1 (h (hn - 1)) r1)) (ag2 (h ((hn - 1) - 1)) (ag2 (h (hn - 1)) r2)) (ag3 (h ((hn - 1) - 1)) (ag2 (h (hn - 1)) r2) (ag3 (h (hn - 1)) r2 r3)) (ag4 (h ((hn - 1) - 1)) (ag2 (h (hn - 1)) r2) (ag4 (h (hn - 1)) r2 r4)) ((h ((hn - 1) - 1)) 0) (pak (itC (wdS (h ((hn - 1) - 1))) (h ((hn - 1) - 1))) ((h ((hn - 1) - 1)) 0)) (mkP (fun k9 => decide (k9 < (h ((hn - 1) - 1)) 0))) wt 0) := CX_dd hD
                      refine zn_if_ne (tgt := 477)  hx hb dL_law_470 (by decide) (by omega) (fun c470 => ?_) (fun c470 => ?_)
                      · exact absurd c470 (by omega)
                      · refine lv_iconst (v := (nI 1)) hx hb dL_law_473 (by decide) ?_
                        refine lv_goto (tgt := 478) hx hb dL_law_474 (by decide) ?_
                        refine zt_i (v := 1) (by rfl) ?_
                        refine va_forget (fun q9 h9 => by have h8 := hS.2.2 q9 h9; rw [hFA] at h8; exact h8) ?_
                        refine W.widen (k := 600000) (n := 7302250) (Nat.le_of_ble_eq_true rfl) (Nat.le_of_ble_eq_true rfl) ?_
                        exact lw_ret hx hb hr hlk dL_law_478
            · refine lv_iload hx hb dL_law_71 (lv_at hl 1 rfl) ?_
              refine zn_if_eq (tgt := 426)  hx hb dL_law_73 (by decide) (by omega) (fun c73 => ?_) (fun c73 => ?_)
              · exact absurd c73 (by omega)
              · refine lv_aload_n hx hb dL_law_76 rfl (lv_at hl 5 rfl) ?_
                refine lv_iconst (v := (nI 2)) hx hb dL_law_77 (by decide) ?_
                refine lv_iload hx hb dL_law_78 (lv_at hl 0 rfl) ?_
                refine zv_iadd hx hb (v := (nI (2 + round))) dL_law_80 (nI_add _ _) ?_
                refine zc_r (va_runS (As := [.ref (b), .int (nI (2 + round))]) (rest := []) ⟨hx, hb, hml, hown, hts⟩ (c_L_cell l b L xs (2 + round) (by omega) hL) (va_cwS 2 hts gL_law_L_cell rfl rfl rfl (by decide +kernel) ⟨Nat.le_of_ble_eq_true rfl, Nat.le_of_ble_eq_true rfl⟩) ⟨zX_blind, zp_X hX hbl hbA hS⟩ rfl rfl hl.1 rfl (lv_room (Nat.le_of_ble_eq_true rfl)) dL_law_81 ⟨Nat.le_of_ble_eq_true rfl, Nat.le_of_ble_eq_true rfl⟩).run ?_
                have hy81 := celV_lt L xs (2 + round)
                generalize celV L xs (2 + round) = y81 at hy81 ⊢
                refine lv_iconst (v := (nI 1)) hx hb dL_law_84 (by decide) ?_
                refine lv_iconst (v := (nI 4)) hx hb dL_law_85 (by decide) ?_
                refine lv_iload_n hx hb dL_law_86 rfl (lv_at hl 2 rfl) ?_
                refine zv_imul hx hb (v := (nI (4 * k0))) dL_law_87 (pk_mul _ _) ?_
                refine zv_ishl hx hb (v := (nI (2 ^ (4 * k0)))) dL_law_88 (by rw [zShl (by omega) (by omega), Nat.one_mul]) ?_
                refine zv_irem hx hb (v := (nI (y81 % (2 ^ (4 * k0))))) dL_law_89 (by omega) (by omega) (zrem (by omega) (by omega) (by omega)) ?_
                obtain ⟨m0, em0⟩ : ∃ z9, z9 = y81 % 2 ^ (4 * k0) := ⟨_, rfl⟩
                have hm0 : m0 < 2 ^ (4 * k0) := by rw [em0]; exact Nat.mod_lt _ hpk0
                refine zt_i (v := (nI m0)) (by rw [em0]) ?_
                refine lv_istore (lv' := [(6, .int (nI m0)), (5, .int (nI round)), (4, .int (nI 1)), (3, .int (nI k0)), (2, .int (nI n0)), (1, .ref (A 0)), (0, .ref (b))]) hx hb dL_law_90 hl (by decide) rfl (fun ls hl => ?_)
                refine lv_aload_n hx hb dL_law_92 rfl (lv_at hl 5 rfl) ?_
                refine lv_iload hx hb dL_law_93 (lv_at hl 0 rfl) ?_
                refine zc_w (va_runV (As := [.int (nI m0)]) (rest := []) ⟨hx, hb, hml, hown, hts⟩ (c_X5_send l D Y A B σ hn h r0 r1 r2 r3 r4 wt wn m0 kσ kr khn (by rw [hs1]; exact hm0)) (cwV 1 hts gL_law_X5_send rfl rfl rfl (by decide +kernel) ⟨Nat.le_of_ble_eq_true rfl, Nat.le_of_ble_eq_true rfl⟩) ⟨zBw_blind, va_recv hK hP (ci := 5) (q0 := 0) rfl rfl, zp_w hP hD hK hN⟩ rfl rfl hl.1 rfl (lv_room (Nat.le_of_ble_eq_true rfl)) dL_law_95 ⟨Nat.le_of_ble_eq_true rfl, Nat.le_of_ble_eq_true rfl⟩).run hS (zA_of hD) (fun H locs hP hz hk hS => ?_)
                have hD : va_D FA (CX Y A (recB B hn) (sndI σ m0 (σ 0)) (recN hn) (recH h hn σ) (wdS (sndI σ m0 (σ 0))) (ddS (sndI σ m0 (σ 0))) (ag0 (sndI σ m0 (σ 0)) r0) (ag1 (sndI σ m0 (σ 0)) r1) (ag2 (sndI σ m0 (σ 0)) r2) (ag3 (sndI σ m0 (σ 0)) r2 r3) (ag4 (sndI σ m0 (σ 0)) r2 r4) ((sndI σ m0 (σ 0)) 0) (pak (itC (wdS (sndI σ m0 (σ 0))) (sndI σ m0 (σ 0))) ((sndI σ m0 (σ 0)) 0)) (mkP (fun k9 => decide (k9 < (sndI σ m0 (σ 0)) 0))) wt wn) := CX_dd (CX_recD hD)
                have kτ1 := zWF_snd kσ (m := m0) (i := σ 0) (by rw [hs1]; exact hm0)
                obtain ⟨hc1, hc2, hc3, hc4, hc5⟩ := cl_all kτ1 cl_snd
                have e81 : (sndI σ m0 (σ 0)) 8 = m0 := by unfold sndI; rw [if_neg (by omega), zu_eq]
                have hsd := sndN_le σ m0 (σ 0)
                have hd0 : (sndI σ m0 (σ 0)) 0 = n0 := (sndI_lo _ _ _ (by decide)).trans hs0
                have hd1 : (sndI σ m0 (σ 0)) 1 = k0 := (sndI_lo _ _ _ (by decide)).trans hs1
                have hdd : ddS (sndI σ m0 (σ 0)) * ((sndI σ m0 (σ 0)) 0 - (sndI σ m0 (σ 0)) 1 + 1) ≤ 10 * 12 := Nat.mul_le_mul (dd_le _) (by omega)
                refine zn_if_lt (tgt := 148)  hx hb dL_law_98 (by decide) (by omega) (fun c98 => ?_) (fun c98 => ?_)
                · exact absurd c98 (by omega)
                · refine lv_aload_n hx hb dL_law_101 rfl (lv_at hl 5 rfl) ?_
                  refine zc_r (va_runV (As := []) (rest := []) ⟨hx, hb, hml, hown, hts⟩ (c_X5_decode l D Y A (recB B hn) (sndI σ m0 (σ 0)) (recN hn) (recH h hn σ) (ag0 (sndI σ m0 (σ 0)) r0) (ag1 (sndI σ m0 (σ 0)) r1) (ag2 (sndI σ m0 (σ 0)) r2) (ag3 (sndI σ m0 (σ 0)) r2 r3) (ag4 (sndI σ m0 (σ 0)) r2 r4) wt wn  kτ1 (zCon_ag _ _ _ _ _ _)) (cwV 0 hts gL_law_X5_decode rfl rfl rfl (by decide +kernel) ⟨Nat.le_of_ble_eq_true rfl, Nat.le_of_ble_eq_true rfl⟩) ⟨zB_blind, va_recv hK hP (ci := 5) (q0 := 0) rfl rfl, zp_r hP hK hN⟩ rfl rfl hl.1 rfl (lv_room (Nat.le_of_ble_eq_true rfl)) dL_law_102 ⟨Nat.le_of_ble_eq_true rfl, Nat.le_of_ble_eq_true rfl⟩).run ?_
                  refine zt_i (v := (nI m0)) (by rw [hc1, e81]) ?_
                  refine lv_iload hx hb dL_law_105 (lv_at hl 0 rfl) ?_
                  refine zn_icmp_ne (tgt := 148)  hx hb dL_law_107 (by decide) (by omega) (by omega) (fun c107 => ?_) (fun c107 => ?_)
                  · exact absurd c107 (by omega)
                  · refine lv_aload_n hx hb dL_law_110 rfl (lv_at hl 5 rfl) ?_
                    refine zc_r (va_runV (As := []) (rest := []) ⟨hx, hb, hml, hown, hts⟩ (c_X5_decidingTrial l D Y A (recB B hn) (sndI σ m0 (σ 0)) (recN hn) (recH h hn σ) (ag0 (sndI σ m0 (σ 0)) r0) (ag1 (sndI σ m0 (σ 0)) r1) (ag2 (sndI σ m0 (σ 0)) r2) (ag3 (sndI σ m0 (σ 0)) r2 r3) (ag4 (sndI σ m0 (σ 0)) r2 r4) wt wn  kτ1 (zCon_ag _ _ _ _ _ _)) (cwV 0 hts gL_law_X5_decidingTrial rfl rfl rfl (by decide +kernel) ⟨Nat.le_of_ble_eq_true rfl, Nat.le_of_ble_eq_true rfl⟩) ⟨zB_blind, va_recv hK hP (ci := 5) (q0 := 0) rfl rfl, zp_r hP hK hN⟩ rfl rfl hl.1 rfl (lv_room (Nat.le_of_ble_eq_true rfl)) dL_law_111 ⟨Nat.le_of_ble_eq_true rfl, Nat.le_of_ble_eq_true rfl⟩).run ?_
                    refine zt_i (v := (nI 0)) (hc2) ?_
                    refine zn_if_ne (tgt := 148)  hx hb dL_law_114 (by decide) (by omega) (fun c114 => ?_) (fun c114 => ?_)
                    · exact absurd c114 (by omega)
                    · refine lv_aload_n hx hb dL_law_117 rfl (lv_at hl 5 rfl) ?_
                      refine zc_r (va_runV (As := []) (rest := []) ⟨hx, hb, hml, hown, hts⟩ (c_X5_margin l D Y A (recB B hn) (sndI σ m0 (σ 0)) (recN hn) (recH h hn σ) (ag0 (sndI σ m0 (σ 0)) r0) (ag1 (sndI σ m0 (σ 0)) r1) (ag2 (sndI σ m0 (σ 0)) r2) (ag3 (sndI σ m0 (σ 0)) r2 r3) (ag4 (sndI σ m0 (σ 0)) r2 r4) wt wn  kτ1 (zCon_ag _ _ _ _ _ _)) (cwV 0 hts gL_law_X5_margin rfl rfl rfl (by decide +kernel) ⟨Nat.le_of_ble_eq_true rfl, Nat.le_of_ble_eq_true rfl⟩) ⟨zB_blind, va_recv hK hP (ci := 5) (q0 := 0) rfl rfl, zp_r hP hK hN⟩ rfl rfl hl.1 rfl (lv_room (Nat.le_of_ble_eq_true rfl)) dL_law_118 ⟨Nat.le_of_ble_eq_true rfl, Nat.le_of_ble_eq_true rfl⟩).run ?_
                      refine zt_i (v := (nI ((ddS (sndI σ m0 (σ 0))) * ((sndI σ m0 (σ 0)) 0 - (sndI σ m0 (σ 0)) 1 + 1)))) (hc3) ?_
                      refine lv_aload_n hx hb dL_law_121 rfl (lv_at hl 5 rfl) ?_
                      refine lv_iconst (v := (nI 4)) hx hb dL_law_122 (by decide) ?_
                      refine zc_r (va_runV (As := [.int (nI 4)]) (rest := [.int (nI ((ddS (sndI σ m0 (σ 0))) * ((sndI σ m0 (σ 0)) 0 - (sndI σ m0 (σ 0)) 1 + 1)))]) ⟨hx, hb, hml, hown, hts⟩ (c_X5_count l D Y A (recB B hn) (sndI σ m0 (σ 0)) (recN hn) (recH h hn σ) (ag0 (sndI σ m0 (σ 0)) r0) (ag1 (sndI σ m0 (σ 0)) r1) (ag2 (sndI σ m0 (σ 0)) r2) (ag3 (sndI σ m0 (σ 0)) r2 r3) (ag4 (sndI σ m0 (σ 0)) r2 r4) wt wn ((nI 4)) kτ1 (zCon_ag _ _ _ _ _ _)) (cwV 1 hts gL_law_X5_count rfl rfl rfl (by decide +kernel) ⟨Nat.le_of_ble_eq_true rfl, Nat.le_of_ble_eq_true rfl⟩) ⟨zB_blind, va_recv hK hP (ci := 5) (q0 := 0) rfl rfl, zp_r hP hK hN⟩ rfl rfl hl.1 rfl (lv_room (Nat.le_of_ble_eq_true rfl)) dL_law_123 ⟨Nat.le_of_ble_eq_true rfl, Nat.le_of_ble_eq_true rfl⟩).run ?_
                      refine zt_i (v := (nI (ddS (sndI σ m0 (σ 0))))) (cV4 _ _ _) ?_
                      refine lv_aload_n hx hb dL_law_126 rfl (lv_at hl 5 rfl) ?_
                      refine lv_iconst (v := (nI 2)) hx hb dL_law_127 (by decide) ?_
                      refine zc_r (va_runV (As := [.int (nI 2)]) (rest := [.int (nI (ddS (sndI σ m0 (σ 0)))), .int (nI ((ddS (sndI σ m0 (σ 0))) * ((sndI σ m0 (σ 0)) 0 - (sndI σ m0 (σ 0)) 1 + 1)))]) ⟨hx, hb, hml, hown, hts⟩ (c_X5_count l D Y A (recB B hn) (sndI σ m0 (σ 0)) (recN hn) (recH h hn σ) (ag0 (sndI σ m0 (σ 0)) r0) (ag1 (sndI σ m0 (σ 0)) r1) (ag2 (sndI σ m0 (σ 0)) r2) (ag3 (sndI σ m0 (σ 0)) r2 r3) (ag4 (sndI σ m0 (σ 0)) r2 r4) wt wn ((nI 2)) kτ1 (zCon_ag _ _ _ _ _ _)) (cwV 1 hts gL_law_X5_count rfl rfl rfl (by decide +kernel) ⟨Nat.le_of_ble_eq_true rfl, Nat.le_of_ble_eq_true rfl⟩) ⟨zB_blind, va_recv hK hP (ci := 5) (q0 := 0) rfl rfl, zp_r hP hK hN⟩ rfl rfl hl.1 rfl (lv_room (Nat.le_of_ble_eq_true rfl)) dL_law_128 ⟨Nat.le_of_ble_eq_true rfl, Nat.le_of_ble_eq_true rfl⟩).run ?_
                      refine zt_i (v := (nI ((sndI σ m0 (σ 0)) 0 - (sndI σ m0 (σ 0)) 1 + 1))) (cV2 _ _ _) ?_
                      refine zv_imul hx hb (v := (nI ((ddS (sndI σ m0 (σ 0))) * ((sndI σ m0 (σ 0)) 0 - (sndI σ m0 (σ 0)) 1 + 1)))) dL_law_131 (pk_mul _ _) ?_
                      refine zn_icmp_ne (tgt := 148)  hx hb dL_law_132 (by decide) (by omega) (by omega) (fun c132 => ?_) (fun c132 => ?_)
                      · exact absurd c132 (by omega)
                      · refine lv_aload_n hx hb dL_law_135 rfl (lv_at hl 5 rfl) ?_
                        refine lv_bipush (v := (nI 8)) hx hb dL_law_136 (by decide) ?_
                        refine zc_r (va_runV (As := [.int (nI 8)]) (rest := []) ⟨hx, hb, hml, hown, hts⟩ (c_X5_count l D Y A (recB B hn) (sndI σ m0 (σ 0)) (recN hn) (recH h hn σ) (ag0 (sndI σ m0 (σ 0)) r0) (ag1 (sndI σ m0 (σ 0)) r1) (ag2 (sndI σ m0 (σ 0)) r2) (ag3 (sndI σ m0 (σ 0)) r2 r3) (ag4 (sndI σ m0 (σ 0)) r2 r4) wt wn ((nI 8)) kτ1 (zCon_ag _ _ _ _ _ _)) (cwV 1 hts gL_law_X5_count rfl rfl rfl (by decide +kernel) ⟨Nat.le_of_ble_eq_true rfl, Nat.le_of_ble_eq_true rfl⟩) ⟨zB_blind, va_recv hK hP (ci := 5) (q0 := 0) rfl rfl, zp_r hP hK hN⟩ rfl rfl hl.1 rfl (lv_room (Nat.le_of_ble_eq_true rfl)) dL_law_138 ⟨Nat.le_of_ble_eq_true rfl, Nat.le_of_ble_eq_true rfl⟩).run ?_
                        refine zt_i (v := (nI (wrN (wdS (sndI σ m0 (σ 0))) (sndI σ m0 (σ 0)) ((sndI σ m0 (σ 0)) 0)))) (cV8 _ _ _) ?_
                        refine zn_if_ne (tgt := 148)  hx hb dL_law_141 (by decide) (by omega) (fun c141 => ?_) (fun c141 => ?_)
                        · exact absurd c141 (by omega)
                        · refine lv_iconst (v := (nI 1)) hx hb dL_law_144 (by decide) ?_
                          refine lv_goto (tgt := 149) hx hb dL_law_145 (by decide) ?_
                          refine lv_istore (lv' := [(4, .int (nI 1)), (6, .int (nI m0)), (5, .int (nI round)), (3, .int (nI k0)), (2, .int (nI n0)), (1, .ref (A 0)), (0, .ref (b))]) hx hb dL_law_149 hl (by decide) rfl (fun ls hl => ?_)
                          refine lv_aload_n hx hb dL_law_151 rfl (lv_at hl 6 rfl) ?_
                          refine lv_bipush (v := (nI 6)) hx hb dL_law_152 (by decide) ?_
                          refine lv_iload hx hb dL_law_154 (lv_at hl 2 rfl) ?_
                          refine zv_iadd hx hb (v := (nI (6 + round))) dL_law_156 (nI_add _ _) ?_
                          refine zc_r (va_runS (As := [.ref (b), .int (nI (6 + round))]) (rest := []) ⟨hx, hb, hml, hown, hts⟩ (c_L_cell l b L xs (6 + round) (by omega) hL) (va_cwS 2 hts gL_law_L_cell rfl rfl rfl (by decide +kernel) ⟨Nat.le_of_ble_eq_true rfl, Nat.le_of_ble_eq_true rfl⟩) ⟨zX_blind, zp_X hX hbl hbA hS⟩ rfl rfl hl.1 rfl (lv_room (Nat.le_of_ble_eq_true rfl)) dL_law_157 ⟨Nat.le_of_ble_eq_true rfl, Nat.le_of_ble_eq_true rfl⟩).run ?_
                          have hy157 := celV_lt L xs (6 + round)
                          generalize celV L xs (6 + round) = y157 at hy157 ⊢
                          refine lv_bipush (v := (nI 8)) hx hb dL_law_160 (by decide) ?_
                          refine zv_irem hx hb (v := (nI (y157 % 8))) dL_law_162 (by omega) (by omega) (zrem (by omega) (by omega) (by omega)) ?_
                          obtain ⟨many, emany⟩ : ∃ z9, z9 = y157 % 8 := ⟨_, rfl⟩
                          refine zt_i (v := (nI many)) (by rw [emany]) ?_
                          refine lv_istore (lv' := [(7, .int (nI many)), (4, .int (nI 1)), (6, .int (nI m0)), (5, .int (nI round)), (3, .int (nI k0)), (2, .int (nI n0)), (1, .ref (A 0)), (0, .ref (b))]) hx hb dL_law_163 hl (by decide) rfl (fun ls hl => ?_)
                          refine lv_iconst (v := (nI 0)) hx hb dL_law_165 (by decide) ?_
                          refine lv_istore (lv' := [(8, .int (nI 0)), (7, .int (nI many)), (4, .int (nI 1)), (6, .int (nI m0)), (5, .int (nI round)), (3, .int (nI k0)), (2, .int (nI n0)), (1, .ref (A 0)), (0, .ref (b))]) hx hb dL_law_166 hl (by decide) rfl (fun ls hl => ?_)
                          have L168 : ∀ (n9 : Nat) (i : Nat) (B : Nat → Nat) (σ : Nat → Nat) (hn : Nat) (h : Nat → Nat → Nat) (r0 : Nat → Nat) (r1 : Nat → Nat) (r2 : Nat → Nat) (r3 : Nat → Nat) (r4 : Nat → Nat) (hi : i ≤ many) (kσ : zWF σ) (kr : zCon σ r0 r1 r2 r3 r4) (khn : hn ≤ 6) (kh : ∀ i, i < hn → zWF (h i)) (hs0 : σ 0 = n0) (hs1 : σ 1 = k0), many - i < n9 → ∀ (H : Heap) (locs : List Loc), va_P D vwCl (CX Y A B σ hn h (wdS σ) (ddS σ) r0 r1 r2 r3 r4 (σ 0) (pak (itC (wdS σ) σ) (σ 0)) (mkP (fun k9 => decide (k9 < σ 0))) wt wn) H → va_D FA (CX Y A B σ hn h (wdS σ) (ddS σ) r0 r1 r2 r3 r4 (σ 0) (pak (itC (wdS σ) σ) (σ 0)) (mkP (fun k9 => decide (k9 < σ 0))) wt wn) → va_S FA s.heap H locs → ∀ ls : Array Slot, lv_has ls 14 [(8, .int (nI i)), (7, .int (nI many)), (4, .int (nI 1)), (5, .int (nI round)), (3, .int (nI k0)), (2, .int (nI n0)), (1, .ref (A 0)), (0, .ref (b))] → W p l e room_1 s m #[Value.ref b] below meth c H locs 42 399 (lw_Z below #[Value.ref b] s) (F0 m 168 ls []) := by
                            intro n9
                            induction n9 with
                            | zero => intro i B σ hn h r0 r1 r2 r3 r4 hi kσ kr khn kh hs0 hs1 hn9; exact absurd hn9 (Nat.not_lt_zero _)
                            | succ n9 ih9 =>
                              have ih168 := ih9
                              clear ih9
                              intro i B σ hn h r0 r1 r2 r3 r4 hi kσ kr khn kh hs0 hs1 hn9 H locs hP hD hS ls hl
                              obtain ⟨n3, n12, d1, d3, dn, b4, b10, gl, lm, sn, wl, wnz⟩ := id kσ
                              have hnb : n0 * σ 2 = σ 2 * σ 0 := by rw [← hs0, Nat.mul_comm]
                              have hnb0 : 0 < n0 * σ 2 := Nat.mul_pos (by omega) (by omega)
                              have hnb1 : n0 * σ 2 ≤ 12 * 10 := Nat.mul_le_mul (by omega) b10
                              have hrN := rec_N khn
                              refine lv_iload hx hb dL_law_168 (lv_at hl 0 rfl) ?_
                              refine lv_iload hx hb dL_law_170 (lv_at hl 1 rfl) ?_
                              refine zn_icmp_ge (tgt := 264)  hx hb dL_law_172 (by decide) (by omega) (by omega) (fun c172 => ?_) (fun c172 => ?_)
                              · refine lv_iload hx hb dL_law_264 (lv_at hl 2 rfl) ?_
                                refine zn_if_eq (tgt := 299)  hx hb dL_law_266 (by decide) (by omega) (fun c266 => ?_) (fun c266 => ?_)
                                · exact absurd c266 (by omega)
                                · refine lv_aload_n hx hb dL_law_269 rfl (lv_at hl 6 rfl) ?_
                                  refine zc_r (va_runS (As := [.ref (A 0)]) (rest := []) ⟨hx, hb, hml, hown, hts⟩ (c_L_holds l D Y A B σ hn h r0 r1 r2 r3 r4 wt wn  kσ kr) (va_cwS 1 hts gL_law_L_holds rfl rfl rfl (by decide +kernel) ⟨Nat.le_of_ble_eq_true rfl, Nat.le_of_ble_eq_true rfl⟩) ⟨zB_blind, zp_r hP hK hN⟩ rfl rfl hl.1 rfl (lv_room (Nat.le_of_ble_eq_true rfl)) dL_law_270 ⟨Nat.le_of_ble_eq_true rfl, Nat.le_of_ble_eq_true rfl⟩).run ?_
                                  refine zn_if_eq (tgt := 299)  hx hb dL_law_273 (by decide) (by omega) (fun c273 => ?_) (fun c273 => ?_)
                                  · exact absurd c273 (by omega)
                                  · refine lv_iload hx hb dL_law_276 (lv_at hl 3 rfl) ?_
                                    refine zn_if_gt (tgt := 288)  hx hb dL_law_278 (by decide) (by omega) (fun c278 => ?_) (fun c278 => ?_)
                                    · refine lv_aload_n hx hb dL_law_288 rfl (lv_at hl 6 rfl) ?_
                                      refine zc_e (va_runS (As := [.ref (A 0)]) (rest := []) ⟨hx, hb, hml, hown, hts⟩ (c_L_cascades l D Y A B σ hn h r0 r1 r2 r3 r4 wt wn  kσ kr khn kh) (va_cwS 1 hts gL_law_L_cascades rfl rfl rfl (by decide +kernel) ⟨Nat.le_of_ble_eq_true rfl, Nat.le_of_ble_eq_true rfl⟩) ⟨zBw_blind, zp_w hP hD hK hN⟩ rfl rfl hl.1 rfl (lv_room (Nat.le_of_ble_eq_true rfl)) dL_law_289 ⟨Nat.le_of_ble_eq_true rfl, Nat.le_of_ble_eq_true rfl⟩).run hS (zA_of hD) (fun H locs hE9 hS => ?_)
                                      obtain ⟨B, hn, h, r0, r1, r2, r3, r4, hI9, hP9, hD9⟩ := hE9
                                      obtain ⟨kσ9, kr, khn, kh⟩ := hI9
                                      have hP : va_P D vwCl (CX Y A B σ hn h (wdS σ) (ddS σ) r0 r1 r2 r3 r4 (σ 0) (pak (itC (wdS σ) σ) (σ 0)) (mkP (fun k9 => decide (k9 < σ 0))) wt wn) H := hP9
                                      have hD : va_D FA (CX Y A B σ hn h (wdS σ) (ddS σ) r0 r1 r2 r3 r4 (σ 0) (pak (itC (wdS σ) σ) (σ 0)) (mkP (fun k9 => decide (k9 < σ 0))) wt wn) := hD9.weaken (fun _ _ _ h9 => zA_of hD _ h9)
                                      clear hD9 hP9
                                      refine zn_if_eq (tgt := 299)  hx hb dL_law_292 (by decide) (by omega) (fun c292 => ?_) (fun c292 => ?_)
                                      · exact absurd c292 (by omega)
                                      · refine lv_iconst (v := (nI 1)) hx hb dL_law_295 (by decide) ?_
                                        refine lv_goto (tgt := 300) hx hb dL_law_296 (by decide) ?_
                                        refine lv_istore (lv' := [(4, .int (nI 1)), (8, .int (nI i)), (7, .int (nI many)), (5, .int (nI round)), (3, .int (nI k0)), (2, .int (nI n0)), (1, .ref (A 0)), (0, .ref (b))]) hx hb dL_law_300 hl (by decide) rfl (fun ls hl => ?_)
                                        refine lv_aload_n hx hb dL_law_302 rfl (lv_at hl 7 rfl) ?_
                                        refine lv_bipush (v := (nI 42)) hx hb dL_law_303 (by decide) ?_
                                        refine lv_iload hx hb dL_law_305 (lv_at hl 3 rfl) ?_
                                        refine zv_iadd hx hb (v := (nI (42 + round))) dL_law_307 (nI_add _ _) ?_
                                        refine zc_r (va_runS (As := [.ref (b), .int (nI (42 + round))]) (rest := []) ⟨hx, hb, hml, hown, hts⟩ (c_L_cell l b L xs (42 + round) (by omega) hL) (va_cwS 2 hts gL_law_L_cell rfl rfl rfl (by decide +kernel) ⟨Nat.le_of_ble_eq_true rfl, Nat.le_of_ble_eq_true rfl⟩) ⟨zX_blind, zp_X hX hbl hbA hS⟩ rfl rfl hl.1 rfl (lv_room (Nat.le_of_ble_eq_true rfl)) dL_law_308 ⟨Nat.le_of_ble_eq_true rfl, Nat.le_of_ble_eq_true rfl⟩).run ?_
                                        have hy308 := celV_lt L xs (42 + round)
                                        generalize celV L xs (42 + round) = y308 at hy308 ⊢
                                        refine lv_istore (lv' := [(8, .int (nI y308)), (4, .int (nI 1)), (7, .int (nI many)), (5, .int (nI round)), (3, .int (nI k0)), (2, .int (nI n0)), (1, .ref (A 0)), (0, .ref (b))]) hx hb dL_law_311 hl (by decide) rfl (fun ls hl => ?_)
                                        refine lv_iload hx hb dL_law_313 (lv_at hl 0 rfl) ?_
                                        refine lv_iload_n hx hb dL_law_315 rfl (lv_at hl 5 rfl) ?_
                                        refine lv_aload_n hx hb dL_law_316 rfl (lv_at hl 6 rfl) ?_
                                        refine lv_iconst (v := (nI 3)) hx hb dL_law_317 (by decide) ?_
                                        refine zc_r (va_runV (As := [.int (nI 3)]) (rest := [.int (nI n0), .int (nI y308)]) ⟨hx, hb, hml, hown, hts⟩ (c_X5_count l D Y A B σ hn h r0 r1 r2 r3 r4 wt wn ((nI 3)) kσ kr) (cwV 1 hts gL_law_X5_count rfl rfl rfl (by decide +kernel) ⟨Nat.le_of_ble_eq_true rfl, Nat.le_of_ble_eq_true rfl⟩) ⟨zB_blind, va_recv hK hP (ci := 5) (q0 := 0) rfl rfl, zp_r hP hK hN⟩ rfl rfl hl.1 rfl (lv_room (Nat.le_of_ble_eq_true rfl)) dL_law_318 ⟨Nat.le_of_ble_eq_true rfl, Nat.le_of_ble_eq_true rfl⟩).run ?_
                                        refine zt_i (v := (nI (σ 2))) (cV3 _ _ _) ?_
                                        refine zv_imul hx hb (v := (nI (n0 * (σ 2)))) dL_law_321 (pk_mul _ _) ?_
                                        refine zv_irem hx hb (v := (nI (y308 % (n0 * (σ 2))))) dL_law_322 (by omega) (by omega) (zrem (by omega) (by omega) (by omega)) ?_
                                        obtain ⟨p9, ep9⟩ : ∃ z9, z9 = y308 % (n0 * (σ 2)) := ⟨_, rfl⟩
                                        have hp9 : p9 < n0 * σ 2 := by rw [ep9]; exact Nat.mod_lt _ hnb0
                                        refine zt_i (v := (nI p9)) (by rw [ep9]) ?_
                                        refine lv_istore (lv' := [(9, .int (nI p9)), (8, .int (nI y308)), (4, .int (nI 1)), (7, .int (nI many)), (5, .int (nI round)), (3, .int (nI k0)), (2, .int (nI n0)), (1, .ref (A 0)), (0, .ref (b))]) hx hb dL_law_323 hl (by decide) rfl (fun ls hl => ?_)
                                        refine lv_iconst (v := (nI 1)) hx hb dL_law_325 (by decide) ?_
                                        refine lv_iload hx hb dL_law_326 (lv_at hl 1 rfl) ?_
                                        refine lv_bipush (v := (nI 9)) hx hb dL_law_328 (by decide) ?_
                                        refine zv_ishr hx hb (v := (nI (y308 / 2 ^ 9))) dL_law_330 (zShr (by omega) (by omega)) ?_
                                        refine lv_iload_n hx hb dL_law_331 rfl (lv_at hl 6 rfl) ?_
                                        refine lv_aload_n hx hb dL_law_332 rfl (lv_at hl 7 rfl) ?_
                                        refine lv_iconst (v := (nI 3)) hx hb dL_law_333 (by decide) ?_
                                        refine zc_r (va_runV (As := [.int (nI 3)]) (rest := [.int (nI n0), .int (nI (y308 / 2 ^ 9)), .int (nI 1)]) ⟨hx, hb, hml, hown, hts⟩ (c_X5_count l D Y A B σ hn h r0 r1 r2 r3 r4 wt wn ((nI 3)) kσ kr) (cwV 1 hts gL_law_X5_count rfl rfl rfl (by decide +kernel) ⟨Nat.le_of_ble_eq_true rfl, Nat.le_of_ble_eq_true rfl⟩) ⟨zB_blind, va_recv hK hP (ci := 5) (q0 := 0) rfl rfl, zp_r hP hK hN⟩ rfl rfl hl.1 rfl (lv_room (Nat.le_of_ble_eq_true rfl)) dL_law_334 ⟨Nat.le_of_ble_eq_true rfl, Nat.le_of_ble_eq_true rfl⟩).run ?_
                                        refine zt_i (v := (nI (σ 2))) (cV3 _ _ _) ?_
                                        refine zv_imul hx hb (v := (nI (n0 * (σ 2)))) dL_law_337 (pk_mul _ _) ?_
                                        refine lv_iload hx hb dL_law_338 (lv_at hl 0 rfl) ?_
                                        refine zv_isub hx hb (v := (nI ((n0 * (σ 2)) - p9))) dL_law_340 (pk_sub (by omega)) ?_
                                        refine zv_irem hx hb (v := (nI ((y308 / 2 ^ 9) % ((n0 * (σ 2)) - p9)))) dL_law_341 (by omega) (by omega) (zrem (by omega) (by omega) (by omega)) ?_
                                        obtain ⟨x9, ex9⟩ : ∃ z9, z9 = y308 / 2 ^ 9 % (n0 * (σ 2) - p9) := ⟨_, rfl⟩
                                        have hx9 : x9 < n0 * σ 2 - p9 := by rw [ex9]; exact Nat.mod_lt _ (by omega)
                                        refine zt_i (v := (nI x9)) (by rw [ex9]) ?_
                                        refine zv_iadd hx hb (v := (nI (1 + x9))) dL_law_342 (nI_add _ _) ?_
                                        obtain ⟨l9, el9⟩ : ∃ z9, z9 = 1 + x9 := ⟨_, rfl⟩
                                        have hwl := wrN_le (wdS σ) σ (σ 0)
                                        have hto := bur_ge (b := σ 2) (st := p9) (le := l9) (n := σ 0) (by omega) (by omega) (by omega)
                                        have htc := cnt_le (fun j => !(bmask (σ 2) j p9 (p9 + l9) == 0)) (σ 0)
                                        refine zt_i (v := (nI l9)) (by rw [el9]) ?_
                                        refine lv_istore (lv' := [(10, .int (nI l9)), (9, .int (nI p9)), (8, .int (nI y308)), (4, .int (nI 1)), (7, .int (nI many)), (5, .int (nI round)), (3, .int (nI k0)), (2, .int (nI n0)), (1, .ref (A 0)), (0, .ref (b))]) hx hb dL_law_343 hl (by decide) rfl (fun ls hl => ?_)
                                        refine lv_aload_n hx hb dL_law_345 rfl (lv_at hl 8 rfl) ?_
                                        refine zc_r (va_runV (As := []) (rest := []) ⟨hx, hb, hml, hown, hts⟩ (c_X5_decode l D Y A B σ hn h r0 r1 r2 r3 r4 wt wn  kσ kr) (cwV 0 hts gL_law_X5_decode rfl rfl rfl (by decide +kernel) ⟨Nat.le_of_ble_eq_true rfl, Nat.le_of_ble_eq_true rfl⟩) ⟨zB_blind, va_recv hK hP (ci := 5) (q0 := 0) rfl rfl, zp_r hP hK hN⟩ rfl rfl hl.1 rfl (lv_room (Nat.le_of_ble_eq_true rfl)) dL_law_346 ⟨Nat.le_of_ble_eq_true rfl, Nat.le_of_ble_eq_true rfl⟩).run ?_
                                        refine lv_istore (lv' := [(11, .int (decodeV σ)), (10, .int (nI l9)), (9, .int (nI p9)), (8, .int (nI y308)), (4, .int (nI 1)), (7, .int (nI many)), (5, .int (nI round)), (3, .int (nI k0)), (2, .int (nI n0)), (1, .ref (A 0)), (0, .ref (b))]) hx hb dL_law_349 hl (by decide) rfl (fun ls hl => ?_)
                                        refine lv_aload_n hx hb dL_law_351 rfl (lv_at hl 9 rfl) ?_
                                        refine lv_bipush (v := (nI 8)) hx hb dL_law_352 (by decide) ?_
                                        refine zc_r (va_runV (As := [.int (nI 8)]) (rest := []) ⟨hx, hb, hml, hown, hts⟩ (c_X5_count l D Y A B σ hn h r0 r1 r2 r3 r4 wt wn ((nI 8)) kσ kr) (cwV 1 hts gL_law_X5_count rfl rfl rfl (by decide +kernel) ⟨Nat.le_of_ble_eq_true rfl, Nat.le_of_ble_eq_true rfl⟩) ⟨zB_blind, va_recv hK hP (ci := 5) (q0 := 0) rfl rfl, zp_r hP hK hN⟩ rfl rfl hl.1 rfl (lv_room (Nat.le_of_ble_eq_true rfl)) dL_law_354 ⟨Nat.le_of_ble_eq_true rfl, Nat.le_of_ble_eq_true rfl⟩).run ?_
                                        refine zt_i (v := (nI (wrN (wdS σ) σ (σ 0)))) (cV8 _ _ _) ?_
                                        refine lv_istore (lv' := [(12, .int (nI (wrN (wdS σ) σ (σ 0)))), (11, .int (decodeV σ)), (10, .int (nI l9)), (9, .int (nI p9)), (8, .int (nI y308)), (4, .int (nI 1)), (7, .int (nI many)), (5, .int (nI round)), (3, .int (nI k0)), (2, .int (nI n0)), (1, .ref (A 0)), (0, .ref (b))]) hx hb dL_law_357 hl (by decide) rfl (fun ls hl => ?_)
                                        refine lv_aload_n hx hb dL_law_359 rfl (lv_at hl 10 rfl) ?_
                                        refine lv_iload hx hb dL_law_360 (lv_at hl 3 rfl) ?_
                                        refine lv_iload hx hb dL_law_362 (lv_at hl 2 rfl) ?_
                                        refine zc_w (va_runV (As := [.int (nI p9), .int (nI l9)]) (rest := []) ⟨hx, hb, hml, hown, hts⟩ (c_X5_burst l D Y A B σ hn h r0 r1 r2 r3 r4 wt wn p9 l9 kσ kr khn (by omega) (by omega) (by omega)) (cwV 2 hts gL_law_X5_burst rfl rfl rfl (by decide +kernel) ⟨Nat.le_of_ble_eq_true rfl, Nat.le_of_ble_eq_true rfl⟩) ⟨zBw_blind, va_recv hK hP (ci := 5) (q0 := 0) rfl rfl, zp_w hP hD hK hN⟩ rfl rfl hl.1 rfl (lv_room (Nat.le_of_ble_eq_true rfl)) dL_law_364 ⟨Nat.le_of_ble_eq_true rfl, Nat.le_of_ble_eq_true rfl⟩).run hS (zA_of hD) (fun H locs hP hz hk hS => ?_)
                                        have hD : va_D FA (CX Y A (recB B hn) (burI σ p9 (p9 + l9) (σ 0)) (recN hn) (recH h hn σ) (wdS (burI σ p9 (p9 + l9) (σ 0))) (ddS (burI σ p9 (p9 + l9) (σ 0))) (ag0 (burI σ p9 (p9 + l9) (σ 0)) r0) (ag1 (burI σ p9 (p9 + l9) (σ 0)) r1) (ag2 (burI σ p9 (p9 + l9) (σ 0)) r2) (ag3 (burI σ p9 (p9 + l9) (σ 0)) r2 r3) (ag4 (burI σ p9 (p9 + l9) (σ 0)) r2 r4) ((burI σ p9 (p9 + l9) (σ 0)) 0) (pak (itC (wdS (burI σ p9 (p9 + l9) (σ 0))) (burI σ p9 (p9 + l9) (σ 0))) ((burI σ p9 (p9 + l9) (σ 0)) 0)) (mkP (fun k9 => decide (k9 < (burI σ p9 (p9 + l9) (σ 0)) 0))) wt wn) := CX_dd (CX_recD hD)
                                        have kτ := zWF_bur kσ p9 (p9 + l9) (σ 0)
                                        have eb2 : (burI σ p9 (p9 + l9) (σ 0)) 2 = σ 2 := burI_out _ _ _ _ (by omega)
                                        have eb0 : (burI σ p9 (p9 + l9) (σ 0)) 0 = σ 0 := burI_out _ _ _ _ (by omega)
                                        refine lv_istore (lv' := [(13, .int (nI (cnt (fun j => !(bmask (σ 2) j p9 (p9 + l9) == 0)) (σ 0)))), (12, .int (nI (wrN (wdS σ) σ (σ 0)))), (11, .int (decodeV σ)), (10, .int (nI l9)), (9, .int (nI p9)), (8, .int (nI y308)), (4, .int (nI 1)), (7, .int (nI many)), (5, .int (nI round)), (3, .int (nI k0)), (2, .int (nI n0)), (1, .ref (A 0)), (0, .ref (b))]) hx hb dL_law_367 hl (by decide) rfl (fun ls hl => ?_)
                                        refine lv_iload hx hb dL_law_369 (lv_at hl 6 rfl) ?_
                                        refine zn_if_eq (tgt := 417)  hx hb dL_law_371 (by decide) (by omega) (fun c371 => ?_) (fun c371 => ?_)
                                        · exact absurd c371 (by omega)
                                        · refine lv_iload hx hb dL_law_374 (lv_at hl 0 rfl) ?_
                                          refine lv_iconst (v := (nI 1)) hx hb dL_law_376 (by decide) ?_
                                          refine zn_icmp_lt (tgt := 417)  hx hb dL_law_377 (by decide) (by omega) (by omega) (fun c377 => ?_) (fun c377 => ?_)
                                          · exact absurd c377 (by omega)
                                          · refine lv_aload_n hx hb dL_law_380 rfl (lv_at hl 11 rfl) ?_
                                            refine lv_iload hx hb dL_law_381 (lv_at hl 4 rfl) ?_
                                            refine lv_iload hx hb dL_law_383 (lv_at hl 3 rfl) ?_
                                            refine zc_w (va_runV (As := [.int (nI p9), .int (nI l9)]) (rest := []) ⟨hx, hb, hml, hown, hts⟩ (c_X5_burstT l D Y A (recB B hn) (burI σ p9 (p9 + l9) (σ 0)) (recN hn) (recH h hn σ) (ag0 (burI σ p9 (p9 + l9) (σ 0)) r0) (ag1 (burI σ p9 (p9 + l9) (σ 0)) r1) (ag2 (burI σ p9 (p9 + l9) (σ 0)) r2) (ag3 (burI σ p9 (p9 + l9) (σ 0)) r2 r3) (ag4 (burI σ p9 (p9 + l9) (σ 0)) r2 r4) wt wn p9 l9 σ kτ (zCon_ag _ _ _ _ _ _) (rec_N khn).1 (by rw [eb2, eb0]; omega) (by omega) (by rw [eb2, eb0]; omega) (bur_bur2 σ p9 (p9 + l9))) (cwV 2 hts gL_law_X5_burst rfl rfl rfl (by decide +kernel) ⟨Nat.le_of_ble_eq_true rfl, Nat.le_of_ble_eq_true rfl⟩) ⟨zBw_blind, va_recv hK hP (ci := 5) (q0 := 0) rfl rfl, zp_w hP hD hK hN⟩ rfl rfl hl.1 rfl (lv_room (Nat.le_of_ble_eq_true rfl)) dL_law_385 ⟨Nat.le_of_ble_eq_true rfl, Nat.le_of_ble_eq_true rfl⟩).run hS (zA_of hD) (fun H locs hP hz hk hS => ?_)
                                            have hD : va_D FA (CX Y A (recB (recB B hn) (recN hn)) σ (recN (recN hn)) (recH (recH h hn σ) (recN hn) (burI σ p9 (p9 + l9) (σ 0))) (wdS σ) (ddS σ) (ag0 σ (ag0 (burI σ p9 (p9 + l9) (σ 0)) r0)) (ag1 σ (ag1 (burI σ p9 (p9 + l9) (σ 0)) r1)) (ag2 σ (ag2 (burI σ p9 (p9 + l9) (σ 0)) r2)) (ag3 σ (ag2 (burI σ p9 (p9 + l9) (σ 0)) r2) (ag3 (burI σ p9 (p9 + l9) (σ 0)) r2 r3)) (ag4 σ (ag2 (burI σ p9 (p9 + l9) (σ 0)) r2) (ag4 (burI σ p9 (p9 + l9) (σ 0)) r2 r4)) (σ 0) (pak (itC (wdS σ) σ) (σ 0)) (mkP (fun k9 => decide (k9 < σ 0))) wt wn) := CX_dd (CX_recD hD)
                                            refine zt_i (v := (nI (cnt (fun j => !(bmask (σ 2) j p9 (p9 + l9) == 0)) (σ 0)))) (by rw [eb2, eb0]) ?_
                                            refine lv_iload hx hb dL_law_388 (lv_at hl 0 rfl) ?_
                                            refine zn_icmp_ne (tgt := 417)  hx hb dL_law_390 (by decide) (by omega) (by omega) (fun c390 => ?_) (fun c390 => ?_)
                                            · exact absurd c390 (by omega)
                                            · refine lv_aload_n hx hb dL_law_393 rfl (lv_at hl 11 rfl) ?_
                                              refine zc_r (va_runV (As := []) (rest := []) ⟨hx, hb, hml, hown, hts⟩ (c_X5_decode l D Y A (recB (recB B hn) (recN hn)) σ (recN (recN hn)) (recH (recH h hn σ) (recN hn) (burI σ p9 (p9 + l9) (σ 0))) (ag0 σ (ag0 (burI σ p9 (p9 + l9) (σ 0)) r0)) (ag1 σ (ag1 (burI σ p9 (p9 + l9) (σ 0)) r1)) (ag2 σ (ag2 (burI σ p9 (p9 + l9) (σ 0)) r2)) (ag3 σ (ag2 (burI σ p9 (p9 + l9) (σ 0)) r2) (ag3 (burI σ p9 (p9 + l9) (σ 0)) r2 r3)) (ag4 σ (ag2 (burI σ p9 (p9 + l9) (σ 0)) r2) (ag4 (burI σ p9 (p9 + l9) (σ 0)) r2 r4)) wt wn  kσ (zCon_ag _ _ _ _ _ _)) (cwV 0 hts gL_law_X5_decode rfl rfl rfl (by decide +kernel) ⟨Nat.le_of_ble_eq_true rfl, Nat.le_of_ble_eq_true rfl⟩) ⟨zB_blind, va_recv hK hP (ci := 5) (q0 := 0) rfl rfl, zp_r hP hK hN⟩ rfl rfl hl.1 rfl (lv_room (Nat.le_of_ble_eq_true rfl)) dL_law_394 ⟨Nat.le_of_ble_eq_true rfl, Nat.le_of_ble_eq_true rfl⟩).run ?_
                                              refine lv_iload hx hb dL_law_397 (lv_at hl 2 rfl) ?_
                                              refine zz_icmp_ne (tgt := 417) (a := (decodeV σ).toInt) (b := (decodeV σ).toInt) hx hb dL_law_399 (by decide) (rfl) (rfl) (fun c399 => ?_) (fun c399 => ?_)
                                              · exact absurd c399 (by omega)
                                              · refine lv_aload_n hx hb dL_law_402 rfl (lv_at hl 11 rfl) ?_
                                                refine lv_bipush (v := (nI 8)) hx hb dL_law_403 (by decide) ?_
                                                refine zc_r (va_runV (As := [.int (nI 8)]) (rest := []) ⟨hx, hb, hml, hown, hts⟩ (c_X5_count l D Y A (recB (recB B hn) (recN hn)) σ (recN (recN hn)) (recH (recH h hn σ) (recN hn) (burI σ p9 (p9 + l9) (σ 0))) (ag0 σ (ag0 (burI σ p9 (p9 + l9) (σ 0)) r0)) (ag1 σ (ag1 (burI σ p9 (p9 + l9) (σ 0)) r1)) (ag2 σ (ag2 (burI σ p9 (p9 + l9) (σ 0)) r2)) (ag3 σ (ag2 (burI σ p9 (p9 + l9) (σ 0)) r2) (ag3 (burI σ p9 (p9 + l9) (σ 0)) r2 r3)) (ag4 σ (ag2 (burI σ p9 (p9 + l9) (σ 0)) r2) (ag4 (burI σ p9 (p9 + l9) (σ 0)) r2 r4)) wt wn ((nI 8)) kσ (zCon_ag _ _ _ _ _ _)) (cwV 1 hts gL_law_X5_count rfl rfl rfl (by decide +kernel) ⟨Nat.le_of_ble_eq_true rfl, Nat.le_of_ble_eq_true rfl⟩) ⟨zB_blind, va_recv hK hP (ci := 5) (q0 := 0) rfl rfl, zp_r hP hK hN⟩ rfl rfl hl.1 rfl (lv_room (Nat.le_of_ble_eq_true rfl)) dL_law_405 ⟨Nat.le_of_ble_eq_true rfl, Nat.le_of_ble_eq_true rfl⟩).run ?_
                                                refine zt_i (v := (nI (wrN (wdS σ) σ (σ 0)))) (cV8 _ _ _) ?_
                                                refine lv_iload hx hb dL_law_408 (lv_at hl 1 rfl) ?_
                                                refine zn_icmp_ne (tgt := 417)  hx hb dL_law_410 (by decide) (by omega) (by omega) (fun c410 => ?_) (fun c410 => ?_)
                                                · exact absurd c410 (by omega)
                                                · refine lv_iconst (v := (nI 1)) hx hb dL_law_413 (by decide) ?_
                                                  refine lv_goto (tgt := 418) hx hb dL_law_414 (by decide) ?_
                                                  refine lv_istore (lv' := [(4, .int (nI 1)), (13, .int (nI (cnt (fun j => !(bmask (σ 2) j p9 (p9 + l9) == 0)) (σ 0)))), (12, .int (nI (wrN (wdS σ) σ (σ 0)))), (11, .int (decodeV σ)), (10, .int (nI l9)), (9, .int (nI p9)), (8, .int (nI y308)), (7, .int (nI many)), (5, .int (nI round)), (3, .int (nI k0)), (2, .int (nI n0)), (1, .ref (A 0)), (0, .ref (b))]) hx hb dL_law_418 hl (by decide) rfl (fun ls hl => ?_)
                                                  refine lv_iinc (v := (nI (round + 1))) (lv' := [(5, .int (nI (round + 1))), (4, .int (nI 1)), (13, .int (nI (cnt (fun j => !(bmask (σ 2) j p9 (p9 + l9) == 0)) (σ 0)))), (12, .int (nI (wrN (wdS σ) σ (σ 0)))), (11, .int (decodeV σ)), (10, .int (nI l9)), (9, .int (nI p9)), (8, .int (nI y308)), (7, .int (nI many)), (3, .int (nI k0)), (2, .int (nI n0)), (1, .ref (A 0)), (0, .ref (b))]) hx hb dL_law_420 hl (k := 8) rfl (zinc _) (by decide) rfl (fun ls hl => ?_)
                                                  refine lv_goto (tgt := 65) hx hb dL_law_423 (by decide) ?_
                                                  have hP : va_P D vwCl (CX Y A ((recB (recB B hn) (recN hn))) σ ((recN (recN hn))) ((recH (recH h hn σ) (recN hn) (burI σ p9 (p9 + l9) (σ 0)))) (wdS σ) (ddS σ) ((ag0 σ (ag0 (burI σ p9 (p9 + l9) (σ 0)) r0))) ((ag1 σ (ag1 (burI σ p9 (p9 + l9) (σ 0)) r1))) ((ag2 σ (ag2 (burI σ p9 (p9 + l9) (σ 0)) r2))) ((ag3 σ (ag2 (burI σ p9 (p9 + l9) (σ 0)) r2) (ag3 (burI σ p9 (p9 + l9) (σ 0)) r2 r3))) ((ag4 σ (ag2 (burI σ p9 (p9 + l9) (σ 0)) r2) (ag4 (burI σ p9 (p9 + l9) (σ 0)) r2 r4))) (σ 0) (pak (itC (wdS σ) σ) (σ 0)) (mkP (fun k9 => decide (k9 < σ 0))) wt wn) H := hP
                                                  have hD : va_D FA (CX Y A ((recB (recB B hn) (recN hn))) σ ((recN (recN hn))) ((recH (recH h hn σ) (recN hn) (burI σ p9 (p9 + l9) (σ 0)))) (wdS σ) (ddS σ) ((ag0 σ (ag0 (burI σ p9 (p9 + l9) (σ 0)) r0))) ((ag1 σ (ag1 (burI σ p9 (p9 + l9) (σ 0)) r1))) ((ag2 σ (ag2 (burI σ p9 (p9 + l9) (σ 0)) r2))) ((ag3 σ (ag2 (burI σ p9 (p9 + l9) (σ 0)) r2) (ag3 (burI σ p9 (p9 + l9) (σ 0)) r2 r3))) ((ag4 σ (ag2 (burI σ p9 (p9 + l9) (σ 0)) r2) (ag4 (burI σ p9 (p9 + l9) (σ 0)) r2 r4))) (σ 0) (pak (itC (wdS σ) σ) (σ 0)) (mkP (fun k9 => decide (k9 < σ 0))) wt wn) := CX_dd hD
                                                  exact ih65 (round + 1) (recB (recB B hn) (recN hn)) σ (recN (recN hn)) (recH (recH h hn σ) (recN hn) (burI σ p9 (p9 + l9) (σ 0))) (ag0 σ (ag0 (burI σ p9 (p9 + l9) (σ 0)) r0)) (ag1 σ (ag1 (burI σ p9 (p9 + l9) (σ 0)) r1)) (ag2 σ (ag2 (burI σ p9 (p9 + l9) (σ 0)) r2)) (ag3 σ (ag2 (burI σ p9 (p9 + l9) (σ 0)) r2) (ag3 (burI σ p9 (p9 + l9) (σ 0)) r2 r3)) (ag4 σ (ag2 (burI σ p9 (p9 + l9) (σ 0)) r2) (ag4 (burI σ p9 (p9 + l9) (σ 0)) r2 r4)) (by omega) (kσ) (zCon_ag _ _ _ _ _ _) ((rec_N (rec_N khn).1).1) (rec_K kτ (rec_K kσ kh)) (hs0) (hs1) (Or.inr ((rec_N (rec_N khn).1).2.2 (rec_N khn).2.1)) (by omega) H locs hP hD hS ls (lv_sub hl [0, 1, 9, 10, 11, 12] rfl)
                                    · refine lv_aload_n hx hb dL_law_281 rfl (lv_at hl 6 rfl) ?_
                                      refine zc_e (va_runS (As := [.ref (A 0)]) (rest := []) ⟨hx, hb, hml, hown, hts⟩ (c_L_fragile l D Y A B σ hn h r0 r1 r2 r3 r4 wt wn  kσ kr khn kh) (va_cwS 1 hts gL_law_L_fragile rfl rfl rfl (by decide +kernel) ⟨Nat.le_of_ble_eq_true rfl, Nat.le_of_ble_eq_true rfl⟩) ⟨zBw_blind, zp_w hP hD hK hN⟩ rfl rfl hl.1 rfl (lv_room (Nat.le_of_ble_eq_true rfl)) dL_law_282 ⟨Nat.le_of_ble_eq_true rfl, Nat.le_of_ble_eq_true rfl⟩).run hS (zA_of hD) (fun H locs hE9 hS => ?_)
                                      obtain ⟨B, hn, h, r0, r1, r2, r3, r4, hI9, hP9, hD9⟩ := hE9
                                      obtain ⟨kσ9, kr, khn, kh⟩ := hI9
                                      have hP : va_P D vwCl (CX Y A B σ hn h (wdS σ) (ddS σ) r0 r1 r2 r3 r4 (σ 0) (pak (itC (wdS σ) σ) (σ 0)) (mkP (fun k9 => decide (k9 < σ 0))) wt wn) H := hP9
                                      have hD : va_D FA (CX Y A B σ hn h (wdS σ) (ddS σ) r0 r1 r2 r3 r4 (σ 0) (pak (itC (wdS σ) σ) (σ 0)) (mkP (fun k9 => decide (k9 < σ 0))) wt wn) := hD9.weaken (fun _ _ _ h9 => zA_of hD _ h9)
                                      clear hD9 hP9
                                      refine zn_if_eq (tgt := 299)  hx hb dL_law_285 (by decide) (by omega) (fun c285 => ?_) (fun c285 => ?_)
                                      · exact absurd c285 (by omega)
                                      · refine lv_aload_n hx hb dL_law_288 rfl (lv_at hl 6 rfl) ?_
                                        refine zc_e (va_runS (As := [.ref (A 0)]) (rest := []) ⟨hx, hb, hml, hown, hts⟩ (c_L_cascades l D Y A B σ hn h r0 r1 r2 r3 r4 wt wn  kσ kr khn kh) (va_cwS 1 hts gL_law_L_cascades rfl rfl rfl (by decide +kernel) ⟨Nat.le_of_ble_eq_true rfl, Nat.le_of_ble_eq_true rfl⟩) ⟨zBw_blind, zp_w hP hD hK hN⟩ rfl rfl hl.1 rfl (lv_room (Nat.le_of_ble_eq_true rfl)) dL_law_289 ⟨Nat.le_of_ble_eq_true rfl, Nat.le_of_ble_eq_true rfl⟩).run hS (zA_of hD) (fun H locs hE9 hS => ?_)
                                        obtain ⟨B, hn, h, r0, r1, r2, r3, r4, hI9, hP9, hD9⟩ := hE9
                                        obtain ⟨kσ9, kr, khn, kh⟩ := hI9
                                        have hP : va_P D vwCl (CX Y A B σ hn h (wdS σ) (ddS σ) r0 r1 r2 r3 r4 (σ 0) (pak (itC (wdS σ) σ) (σ 0)) (mkP (fun k9 => decide (k9 < σ 0))) wt wn) H := hP9
                                        have hD : va_D FA (CX Y A B σ hn h (wdS σ) (ddS σ) r0 r1 r2 r3 r4 (σ 0) (pak (itC (wdS σ) σ) (σ 0)) (mkP (fun k9 => decide (k9 < σ 0))) wt wn) := hD9.weaken (fun _ _ _ h9 => zA_of hD _ h9)
                                        clear hD9 hP9
                                        refine zn_if_eq (tgt := 299)  hx hb dL_law_292 (by decide) (by omega) (fun c292 => ?_) (fun c292 => ?_)
                                        · exact absurd c292 (by omega)
                                        · refine lv_iconst (v := (nI 1)) hx hb dL_law_295 (by decide) ?_
                                          refine lv_goto (tgt := 300) hx hb dL_law_296 (by decide) ?_
                                          refine lv_istore (lv' := [(4, .int (nI 1)), (8, .int (nI i)), (7, .int (nI many)), (5, .int (nI round)), (3, .int (nI k0)), (2, .int (nI n0)), (1, .ref (A 0)), (0, .ref (b))]) hx hb dL_law_300 hl (by decide) rfl (fun ls hl => ?_)
                                          refine lv_aload_n hx hb dL_law_302 rfl (lv_at hl 7 rfl) ?_
                                          refine lv_bipush (v := (nI 42)) hx hb dL_law_303 (by decide) ?_
                                          refine lv_iload hx hb dL_law_305 (lv_at hl 3 rfl) ?_
                                          refine zv_iadd hx hb (v := (nI (42 + round))) dL_law_307 (nI_add _ _) ?_
                                          refine zc_r (va_runS (As := [.ref (b), .int (nI (42 + round))]) (rest := []) ⟨hx, hb, hml, hown, hts⟩ (c_L_cell l b L xs (42 + round) (by omega) hL) (va_cwS 2 hts gL_law_L_cell rfl rfl rfl (by decide +kernel) ⟨Nat.le_of_ble_eq_true rfl, Nat.le_of_ble_eq_true rfl⟩) ⟨zX_blind, zp_X hX hbl hbA hS⟩ rfl rfl hl.1 rfl (lv_room (Nat.le_of_ble_eq_true rfl)) dL_law_308 ⟨Nat.le_of_ble_eq_true rfl, Nat.le_of_ble_eq_true rfl⟩).run ?_
                                          have hy308 := celV_lt L xs (42 + round)
                                          generalize celV L xs (42 + round) = y308 at hy308 ⊢
                                          refine lv_istore (lv' := [(8, .int (nI y308)), (4, .int (nI 1)), (7, .int (nI many)), (5, .int (nI round)), (3, .int (nI k0)), (2, .int (nI n0)), (1, .ref (A 0)), (0, .ref (b))]) hx hb dL_law_311 hl (by decide) rfl (fun ls hl => ?_)
                                          refine lv_iload hx hb dL_law_313 (lv_at hl 0 rfl) ?_
                                          refine lv_iload_n hx hb dL_law_315 rfl (lv_at hl 5 rfl) ?_
                                          refine lv_aload_n hx hb dL_law_316 rfl (lv_at hl 6 rfl) ?_
                                          refine lv_iconst (v := (nI 3)) hx hb dL_law_317 (by decide) ?_
                                          refine zc_r (va_runV (As := [.int (nI 3)]) (rest := [.int (nI n0), .int (nI y308)]) ⟨hx, hb, hml, hown, hts⟩ (c_X5_count l D Y A B σ hn h r0 r1 r2 r3 r4 wt wn ((nI 3)) kσ kr) (cwV 1 hts gL_law_X5_count rfl rfl rfl (by decide +kernel) ⟨Nat.le_of_ble_eq_true rfl, Nat.le_of_ble_eq_true rfl⟩) ⟨zB_blind, va_recv hK hP (ci := 5) (q0 := 0) rfl rfl, zp_r hP hK hN⟩ rfl rfl hl.1 rfl (lv_room (Nat.le_of_ble_eq_true rfl)) dL_law_318 ⟨Nat.le_of_ble_eq_true rfl, Nat.le_of_ble_eq_true rfl⟩).run ?_
                                          refine zt_i (v := (nI (σ 2))) (cV3 _ _ _) ?_
                                          refine zv_imul hx hb (v := (nI (n0 * (σ 2)))) dL_law_321 (pk_mul _ _) ?_
                                          refine zv_irem hx hb (v := (nI (y308 % (n0 * (σ 2))))) dL_law_322 (by omega) (by omega) (zrem (by omega) (by omega) (by omega)) ?_
                                          obtain ⟨p9, ep9⟩ : ∃ z9, z9 = y308 % (n0 * (σ 2)) := ⟨_, rfl⟩
                                          have hp9 : p9 < n0 * σ 2 := by rw [ep9]; exact Nat.mod_lt _ hnb0
                                          refine zt_i (v := (nI p9)) (by rw [ep9]) ?_
                                          refine lv_istore (lv' := [(9, .int (nI p9)), (8, .int (nI y308)), (4, .int (nI 1)), (7, .int (nI many)), (5, .int (nI round)), (3, .int (nI k0)), (2, .int (nI n0)), (1, .ref (A 0)), (0, .ref (b))]) hx hb dL_law_323 hl (by decide) rfl (fun ls hl => ?_)
                                          refine lv_iconst (v := (nI 1)) hx hb dL_law_325 (by decide) ?_
                                          refine lv_iload hx hb dL_law_326 (lv_at hl 1 rfl) ?_
                                          refine lv_bipush (v := (nI 9)) hx hb dL_law_328 (by decide) ?_
                                          refine zv_ishr hx hb (v := (nI (y308 / 2 ^ 9))) dL_law_330 (zShr (by omega) (by omega)) ?_
                                          refine lv_iload_n hx hb dL_law_331 rfl (lv_at hl 6 rfl) ?_
                                          refine lv_aload_n hx hb dL_law_332 rfl (lv_at hl 7 rfl) ?_
                                          refine lv_iconst (v := (nI 3)) hx hb dL_law_333 (by decide) ?_
                                          refine zc_r (va_runV (As := [.int (nI 3)]) (rest := [.int (nI n0), .int (nI (y308 / 2 ^ 9)), .int (nI 1)]) ⟨hx, hb, hml, hown, hts⟩ (c_X5_count l D Y A B σ hn h r0 r1 r2 r3 r4 wt wn ((nI 3)) kσ kr) (cwV 1 hts gL_law_X5_count rfl rfl rfl (by decide +kernel) ⟨Nat.le_of_ble_eq_true rfl, Nat.le_of_ble_eq_true rfl⟩) ⟨zB_blind, va_recv hK hP (ci := 5) (q0 := 0) rfl rfl, zp_r hP hK hN⟩ rfl rfl hl.1 rfl (lv_room (Nat.le_of_ble_eq_true rfl)) dL_law_334 ⟨Nat.le_of_ble_eq_true rfl, Nat.le_of_ble_eq_true rfl⟩).run ?_
                                          refine zt_i (v := (nI (σ 2))) (cV3 _ _ _) ?_
                                          refine zv_imul hx hb (v := (nI (n0 * (σ 2)))) dL_law_337 (pk_mul _ _) ?_
                                          refine lv_iload hx hb dL_law_338 (lv_at hl 0 rfl) ?_
                                          refine zv_isub hx hb (v := (nI ((n0 * (σ 2)) - p9))) dL_law_340 (pk_sub (by omega)) ?_
                                          refine zv_irem hx hb (v := (nI ((y308 / 2 ^ 9) % ((n0 * (σ 2)) - p9)))) dL_law_341 (by omega) (by omega) (zrem (by omega) (by omega) (by omega)) ?_
                                          obtain ⟨x9, ex9⟩ : ∃ z9, z9 = y308 / 2 ^ 9 % (n0 * (σ 2) - p9) := ⟨_, rfl⟩
                                          have hx9 : x9 < n0 * σ 2 - p9 := by rw [ex9]; exact Nat.mod_lt _ (by omega)
                                          refine zt_i (v := (nI x9)) (by rw [ex9]) ?_
                                          refine zv_iadd hx hb (v := (nI (1 + x9))) dL_law_342 (nI_add _ _) ?_
                                          obtain ⟨l9, el9⟩ : ∃ z9, z9 = 1 + x9 := ⟨_, rfl⟩
                                          have hwl := wrN_le (wdS σ) σ (σ 0)
                                          have hto := bur_ge (b := σ 2) (st := p9) (le := l9) (n := σ 0) (by omega) (by omega) (by omega)
                                          have htc := cnt_le (fun j => !(bmask (σ 2) j p9 (p9 + l9) == 0)) (σ 0)
                                          refine zt_i (v := (nI l9)) (by rw [el9]) ?_
                                          refine lv_istore (lv' := [(10, .int (nI l9)), (9, .int (nI p9)), (8, .int (nI y308)), (4, .int (nI 1)), (7, .int (nI many)), (5, .int (nI round)), (3, .int (nI k0)), (2, .int (nI n0)), (1, .ref (A 0)), (0, .ref (b))]) hx hb dL_law_343 hl (by decide) rfl (fun ls hl => ?_)
                                          refine lv_aload_n hx hb dL_law_345 rfl (lv_at hl 8 rfl) ?_
                                          refine zc_r (va_runV (As := []) (rest := []) ⟨hx, hb, hml, hown, hts⟩ (c_X5_decode l D Y A B σ hn h r0 r1 r2 r3 r4 wt wn  kσ kr) (cwV 0 hts gL_law_X5_decode rfl rfl rfl (by decide +kernel) ⟨Nat.le_of_ble_eq_true rfl, Nat.le_of_ble_eq_true rfl⟩) ⟨zB_blind, va_recv hK hP (ci := 5) (q0 := 0) rfl rfl, zp_r hP hK hN⟩ rfl rfl hl.1 rfl (lv_room (Nat.le_of_ble_eq_true rfl)) dL_law_346 ⟨Nat.le_of_ble_eq_true rfl, Nat.le_of_ble_eq_true rfl⟩).run ?_
                                          refine lv_istore (lv' := [(11, .int (decodeV σ)), (10, .int (nI l9)), (9, .int (nI p9)), (8, .int (nI y308)), (4, .int (nI 1)), (7, .int (nI many)), (5, .int (nI round)), (3, .int (nI k0)), (2, .int (nI n0)), (1, .ref (A 0)), (0, .ref (b))]) hx hb dL_law_349 hl (by decide) rfl (fun ls hl => ?_)
                                          refine lv_aload_n hx hb dL_law_351 rfl (lv_at hl 9 rfl) ?_
                                          refine lv_bipush (v := (nI 8)) hx hb dL_law_352 (by decide) ?_
                                          refine zc_r (va_runV (As := [.int (nI 8)]) (rest := []) ⟨hx, hb, hml, hown, hts⟩ (c_X5_count l D Y A B σ hn h r0 r1 r2 r3 r4 wt wn ((nI 8)) kσ kr) (cwV 1 hts gL_law_X5_count rfl rfl rfl (by decide +kernel) ⟨Nat.le_of_ble_eq_true rfl, Nat.le_of_ble_eq_true rfl⟩) ⟨zB_blind, va_recv hK hP (ci := 5) (q0 := 0) rfl rfl, zp_r hP hK hN⟩ rfl rfl hl.1 rfl (lv_room (Nat.le_of_ble_eq_true rfl)) dL_law_354 ⟨Nat.le_of_ble_eq_true rfl, Nat.le_of_ble_eq_true rfl⟩).run ?_
                                          refine zt_i (v := (nI (wrN (wdS σ) σ (σ 0)))) (cV8 _ _ _) ?_
                                          refine lv_istore (lv' := [(12, .int (nI (wrN (wdS σ) σ (σ 0)))), (11, .int (decodeV σ)), (10, .int (nI l9)), (9, .int (nI p9)), (8, .int (nI y308)), (4, .int (nI 1)), (7, .int (nI many)), (5, .int (nI round)), (3, .int (nI k0)), (2, .int (nI n0)), (1, .ref (A 0)), (0, .ref (b))]) hx hb dL_law_357 hl (by decide) rfl (fun ls hl => ?_)
                                          refine lv_aload_n hx hb dL_law_359 rfl (lv_at hl 10 rfl) ?_
                                          refine lv_iload hx hb dL_law_360 (lv_at hl 3 rfl) ?_
                                          refine lv_iload hx hb dL_law_362 (lv_at hl 2 rfl) ?_
                                          refine zc_w (va_runV (As := [.int (nI p9), .int (nI l9)]) (rest := []) ⟨hx, hb, hml, hown, hts⟩ (c_X5_burst l D Y A B σ hn h r0 r1 r2 r3 r4 wt wn p9 l9 kσ kr khn (by omega) (by omega) (by omega)) (cwV 2 hts gL_law_X5_burst rfl rfl rfl (by decide +kernel) ⟨Nat.le_of_ble_eq_true rfl, Nat.le_of_ble_eq_true rfl⟩) ⟨zBw_blind, va_recv hK hP (ci := 5) (q0 := 0) rfl rfl, zp_w hP hD hK hN⟩ rfl rfl hl.1 rfl (lv_room (Nat.le_of_ble_eq_true rfl)) dL_law_364 ⟨Nat.le_of_ble_eq_true rfl, Nat.le_of_ble_eq_true rfl⟩).run hS (zA_of hD) (fun H locs hP hz hk hS => ?_)
                                          have hD : va_D FA (CX Y A (recB B hn) (burI σ p9 (p9 + l9) (σ 0)) (recN hn) (recH h hn σ) (wdS (burI σ p9 (p9 + l9) (σ 0))) (ddS (burI σ p9 (p9 + l9) (σ 0))) (ag0 (burI σ p9 (p9 + l9) (σ 0)) r0) (ag1 (burI σ p9 (p9 + l9) (σ 0)) r1) (ag2 (burI σ p9 (p9 + l9) (σ 0)) r2) (ag3 (burI σ p9 (p9 + l9) (σ 0)) r2 r3) (ag4 (burI σ p9 (p9 + l9) (σ 0)) r2 r4) ((burI σ p9 (p9 + l9) (σ 0)) 0) (pak (itC (wdS (burI σ p9 (p9 + l9) (σ 0))) (burI σ p9 (p9 + l9) (σ 0))) ((burI σ p9 (p9 + l9) (σ 0)) 0)) (mkP (fun k9 => decide (k9 < (burI σ p9 (p9 + l9) (σ 0)) 0))) wt wn) := CX_dd (CX_recD hD)
                                          have kτ := zWF_bur kσ p9 (p9 + l9) (σ 0)
                                          have eb2 : (burI σ p9 (p9 + l9) (σ 0)) 2 = σ 2 := burI_out _ _ _ _ (by omega)
                                          have eb0 : (burI σ p9 (p9 + l9) (σ 0)) 0 = σ 0 := burI_out _ _ _ _ (by omega)
                                          refine lv_istore (lv' := [(13, .int (nI (cnt (fun j => !(bmask (σ 2) j p9 (p9 + l9) == 0)) (σ 0)))), (12, .int (nI (wrN (wdS σ) σ (σ 0)))), (11, .int (decodeV σ)), (10, .int (nI l9)), (9, .int (nI p9)), (8, .int (nI y308)), (4, .int (nI 1)), (7, .int (nI many)), (5, .int (nI round)), (3, .int (nI k0)), (2, .int (nI n0)), (1, .ref (A 0)), (0, .ref (b))]) hx hb dL_law_367 hl (by decide) rfl (fun ls hl => ?_)
                                          refine lv_iload hx hb dL_law_369 (lv_at hl 6 rfl) ?_
                                          refine zn_if_eq (tgt := 417)  hx hb dL_law_371 (by decide) (by omega) (fun c371 => ?_) (fun c371 => ?_)
                                          · exact absurd c371 (by omega)
                                          · refine lv_iload hx hb dL_law_374 (lv_at hl 0 rfl) ?_
                                            refine lv_iconst (v := (nI 1)) hx hb dL_law_376 (by decide) ?_
                                            refine zn_icmp_lt (tgt := 417)  hx hb dL_law_377 (by decide) (by omega) (by omega) (fun c377 => ?_) (fun c377 => ?_)
                                            · exact absurd c377 (by omega)
                                            · refine lv_aload_n hx hb dL_law_380 rfl (lv_at hl 11 rfl) ?_
                                              refine lv_iload hx hb dL_law_381 (lv_at hl 4 rfl) ?_
                                              refine lv_iload hx hb dL_law_383 (lv_at hl 3 rfl) ?_
                                              refine zc_w (va_runV (As := [.int (nI p9), .int (nI l9)]) (rest := []) ⟨hx, hb, hml, hown, hts⟩ (c_X5_burstT l D Y A (recB B hn) (burI σ p9 (p9 + l9) (σ 0)) (recN hn) (recH h hn σ) (ag0 (burI σ p9 (p9 + l9) (σ 0)) r0) (ag1 (burI σ p9 (p9 + l9) (σ 0)) r1) (ag2 (burI σ p9 (p9 + l9) (σ 0)) r2) (ag3 (burI σ p9 (p9 + l9) (σ 0)) r2 r3) (ag4 (burI σ p9 (p9 + l9) (σ 0)) r2 r4) wt wn p9 l9 σ kτ (zCon_ag _ _ _ _ _ _) (rec_N khn).1 (by rw [eb2, eb0]; omega) (by omega) (by rw [eb2, eb0]; omega) (bur_bur2 σ p9 (p9 + l9))) (cwV 2 hts gL_law_X5_burst rfl rfl rfl (by decide +kernel) ⟨Nat.le_of_ble_eq_true rfl, Nat.le_of_ble_eq_true rfl⟩) ⟨zBw_blind, va_recv hK hP (ci := 5) (q0 := 0) rfl rfl, zp_w hP hD hK hN⟩ rfl rfl hl.1 rfl (lv_room (Nat.le_of_ble_eq_true rfl)) dL_law_385 ⟨Nat.le_of_ble_eq_true rfl, Nat.le_of_ble_eq_true rfl⟩).run hS (zA_of hD) (fun H locs hP hz hk hS => ?_)
                                              have hD : va_D FA (CX Y A (recB (recB B hn) (recN hn)) σ (recN (recN hn)) (recH (recH h hn σ) (recN hn) (burI σ p9 (p9 + l9) (σ 0))) (wdS σ) (ddS σ) (ag0 σ (ag0 (burI σ p9 (p9 + l9) (σ 0)) r0)) (ag1 σ (ag1 (burI σ p9 (p9 + l9) (σ 0)) r1)) (ag2 σ (ag2 (burI σ p9 (p9 + l9) (σ 0)) r2)) (ag3 σ (ag2 (burI σ p9 (p9 + l9) (σ 0)) r2) (ag3 (burI σ p9 (p9 + l9) (σ 0)) r2 r3)) (ag4 σ (ag2 (burI σ p9 (p9 + l9) (σ 0)) r2) (ag4 (burI σ p9 (p9 + l9) (σ 0)) r2 r4)) (σ 0) (pak (itC (wdS σ) σ) (σ 0)) (mkP (fun k9 => decide (k9 < σ 0))) wt wn) := CX_dd (CX_recD hD)
                                              refine zt_i (v := (nI (cnt (fun j => !(bmask (σ 2) j p9 (p9 + l9) == 0)) (σ 0)))) (by rw [eb2, eb0]) ?_
                                              refine lv_iload hx hb dL_law_388 (lv_at hl 0 rfl) ?_
                                              refine zn_icmp_ne (tgt := 417)  hx hb dL_law_390 (by decide) (by omega) (by omega) (fun c390 => ?_) (fun c390 => ?_)
                                              · exact absurd c390 (by omega)
                                              · refine lv_aload_n hx hb dL_law_393 rfl (lv_at hl 11 rfl) ?_
                                                refine zc_r (va_runV (As := []) (rest := []) ⟨hx, hb, hml, hown, hts⟩ (c_X5_decode l D Y A (recB (recB B hn) (recN hn)) σ (recN (recN hn)) (recH (recH h hn σ) (recN hn) (burI σ p9 (p9 + l9) (σ 0))) (ag0 σ (ag0 (burI σ p9 (p9 + l9) (σ 0)) r0)) (ag1 σ (ag1 (burI σ p9 (p9 + l9) (σ 0)) r1)) (ag2 σ (ag2 (burI σ p9 (p9 + l9) (σ 0)) r2)) (ag3 σ (ag2 (burI σ p9 (p9 + l9) (σ 0)) r2) (ag3 (burI σ p9 (p9 + l9) (σ 0)) r2 r3)) (ag4 σ (ag2 (burI σ p9 (p9 + l9) (σ 0)) r2) (ag4 (burI σ p9 (p9 + l9) (σ 0)) r2 r4)) wt wn  kσ (zCon_ag _ _ _ _ _ _)) (cwV 0 hts gL_law_X5_decode rfl rfl rfl (by decide +kernel) ⟨Nat.le_of_ble_eq_true rfl, Nat.le_of_ble_eq_true rfl⟩) ⟨zB_blind, va_recv hK hP (ci := 5) (q0 := 0) rfl rfl, zp_r hP hK hN⟩ rfl rfl hl.1 rfl (lv_room (Nat.le_of_ble_eq_true rfl)) dL_law_394 ⟨Nat.le_of_ble_eq_true rfl, Nat.le_of_ble_eq_true rfl⟩).run ?_
                                                refine lv_iload hx hb dL_law_397 (lv_at hl 2 rfl) ?_
                                                refine zz_icmp_ne (tgt := 417) (a := (decodeV σ).toInt) (b := (decodeV σ).toInt) hx hb dL_law_399 (by decide) (rfl) (rfl) (fun c399 => ?_) (fun c399 => ?_)
                                                · exact absurd c399 (by omega)
                                                · refine lv_aload_n hx hb dL_law_402 rfl (lv_at hl 11 rfl) ?_
                                                  refine lv_bipush (v := (nI 8)) hx hb dL_law_403 (by decide) ?_
                                                  refine zc_r (va_runV (As := [.int (nI 8)]) (rest := []) ⟨hx, hb, hml, hown, hts⟩ (c_X5_count l D Y A (recB (recB B hn) (recN hn)) σ (recN (recN hn)) (recH (recH h hn σ) (recN hn) (burI σ p9 (p9 + l9) (σ 0))) (ag0 σ (ag0 (burI σ p9 (p9 + l9) (σ 0)) r0)) (ag1 σ (ag1 (burI σ p9 (p9 + l9) (σ 0)) r1)) (ag2 σ (ag2 (burI σ p9 (p9 + l9) (σ 0)) r2)) (ag3 σ (ag2 (burI σ p9 (p9 + l9) (σ 0)) r2) (ag3 (burI σ p9 (p9 + l9) (σ 0)) r2 r3)) (ag4 σ (ag2 (burI σ p9 (p9 + l9) (σ 0)) r2) (ag4 (burI σ p9 (p9 + l9) (σ 0)) r2 r4)) wt wn ((nI 8)) kσ (zCon_ag _ _ _ _ _ _)) (cwV 1 hts gL_law_X5_count rfl rfl rfl (by decide +kernel) ⟨Nat.le_of_ble_eq_true rfl, Nat.le_of_ble_eq_true rfl⟩) ⟨zB_blind, va_recv hK hP (ci := 5) (q0 := 0) rfl rfl, zp_r hP hK hN⟩ rfl rfl hl.1 rfl (lv_room (Nat.le_of_ble_eq_true rfl)) dL_law_405 ⟨Nat.le_of_ble_eq_true rfl, Nat.le_of_ble_eq_true rfl⟩).run ?_
                                                  refine zt_i (v := (nI (wrN (wdS σ) σ (σ 0)))) (cV8 _ _ _) ?_
                                                  refine lv_iload hx hb dL_law_408 (lv_at hl 1 rfl) ?_
                                                  refine zn_icmp_ne (tgt := 417)  hx hb dL_law_410 (by decide) (by omega) (by omega) (fun c410 => ?_) (fun c410 => ?_)
                                                  · exact absurd c410 (by omega)
                                                  · refine lv_iconst (v := (nI 1)) hx hb dL_law_413 (by decide) ?_
                                                    refine lv_goto (tgt := 418) hx hb dL_law_414 (by decide) ?_
                                                    refine lv_istore (lv' := [(4, .int (nI 1)), (13, .int (nI (cnt (fun j => !(bmask (σ 2) j p9 (p9 + l9) == 0)) (σ 0)))), (12, .int (nI (wrN (wdS σ) σ (σ 0)))), (11, .int (decodeV σ)), (10, .int (nI l9)), (9, .int (nI p9)), (8, .int (nI y308)), (7, .int (nI many)), (5, .int (nI round)), (3, .int (nI k0)), (2, .int (nI n0)), (1, .ref (A 0)), (0, .ref (b))]) hx hb dL_law_418 hl (by decide) rfl (fun ls hl => ?_)
                                                    refine lv_iinc (v := (nI (round + 1))) (lv' := [(5, .int (nI (round + 1))), (4, .int (nI 1)), (13, .int (nI (cnt (fun j => !(bmask (σ 2) j p9 (p9 + l9) == 0)) (σ 0)))), (12, .int (nI (wrN (wdS σ) σ (σ 0)))), (11, .int (decodeV σ)), (10, .int (nI l9)), (9, .int (nI p9)), (8, .int (nI y308)), (7, .int (nI many)), (3, .int (nI k0)), (2, .int (nI n0)), (1, .ref (A 0)), (0, .ref (b))]) hx hb dL_law_420 hl (k := 8) rfl (zinc _) (by decide) rfl (fun ls hl => ?_)
                                                    refine lv_goto (tgt := 65) hx hb dL_law_423 (by decide) ?_
                                                    have hP : va_P D vwCl (CX Y A ((recB (recB B hn) (recN hn))) σ ((recN (recN hn))) ((recH (recH h hn σ) (recN hn) (burI σ p9 (p9 + l9) (σ 0)))) (wdS σ) (ddS σ) ((ag0 σ (ag0 (burI σ p9 (p9 + l9) (σ 0)) r0))) ((ag1 σ (ag1 (burI σ p9 (p9 + l9) (σ 0)) r1))) ((ag2 σ (ag2 (burI σ p9 (p9 + l9) (σ 0)) r2))) ((ag3 σ (ag2 (burI σ p9 (p9 + l9) (σ 0)) r2) (ag3 (burI σ p9 (p9 + l9) (σ 0)) r2 r3))) ((ag4 σ (ag2 (burI σ p9 (p9 + l9) (σ 0)) r2) (ag4 (burI σ p9 (p9 + l9) (σ 0)) r2 r4))) (σ 0) (pak (itC (wdS σ) σ) (σ 0)) (mkP (fun k9 => decide (k9 < σ 0))) wt wn) H := hP
                                                    have hD : va_D FA (CX Y A ((recB (recB B hn) (recN hn))) σ ((recN (recN hn))) ((recH (recH h hn σ) (recN hn) (burI σ p9 (p9 + l9) (σ 0)))) (wdS σ) (ddS σ) ((ag0 σ (ag0 (burI σ p9 (p9 + l9) (σ 0)) r0))) ((ag1 σ (ag1 (burI σ p9 (p9 + l9) (σ 0)) r1))) ((ag2 σ (ag2 (burI σ p9 (p9 + l9) (σ 0)) r2))) ((ag3 σ (ag2 (burI σ p9 (p9 + l9) (σ 0)) r2) (ag3 (burI σ p9 (p9 + l9) (σ 0)) r2 r3))) ((ag4 σ (ag2 (burI σ p9 (p9 + l9) (σ 0)) r2) (ag4 (burI σ p9 (p9 + l9) (σ 0)) r2 r4))) (σ 0) (pak (itC (wdS σ) σ) (σ 0)) (mkP (fun k9 => decide (k9 < σ 0))) wt wn) := CX_dd hD
                                                    exact ih65 (round + 1) (recB (recB B hn) (recN hn)) σ (recN (recN hn)) (recH (recH h hn σ) (recN hn) (burI σ p9 (p9 + l9) (σ 0))) (ag0 σ (ag0 (burI σ p9 (p9 + l9) (σ 0)) r0)) (ag1 σ (ag1 (burI σ p9 (p9 + l9) (σ 0)) r1)) (ag2 σ (ag2 (burI σ p9 (p9 + l9) (σ 0)) r2)) (ag3 σ (ag2 (burI σ p9 (p9 + l9) (σ 0)) r2) (ag3 (burI σ p9 (p9 + l9) (σ 0)) r2 r3)) (ag4 σ (ag2 (burI σ p9 (p9 + l9) (σ 0)) r2) (ag4 (burI σ p9 (p9 + l9) (σ 0)) r2 r4)) (by omega) (kσ) (zCon_ag _ _ _ _ _ _) ((rec_N (rec_N khn).1).1) (rec_K kτ (rec_K kσ kh)) (hs0) (hs1) (Or.inr ((rec_N (rec_N khn).1).2.2 (rec_N khn).2.1)) (by omega) H locs hP hD hS ls (lv_sub hl [0, 1, 9, 10, 11, 12] rfl)
                              · refine lv_iload hx hb dL_law_175 (lv_at hl 2 rfl) ?_
                                refine zn_if_eq (tgt := 264)  hx hb dL_law_177 (by decide) (by omega) (fun c177 => ?_) (fun c177 => ?_)
                                · exact absurd c177 (by omega)
                                · refine lv_aload_n hx hb dL_law_180 rfl (lv_at hl 7 rfl) ?_
                                  refine lv_bipush (v := (nI 10)) hx hb dL_law_181 (by decide) ?_
                                  refine lv_bipush (v := (nI 8)) hx hb dL_law_183 (by decide) ?_
                                  refine lv_iload hx hb dL_law_185 (lv_at hl 3 rfl) ?_
                                  refine zv_imul hx hb (v := (nI (8 * round))) dL_law_187 (pk_mul _ _) ?_
                                  refine zv_iadd hx hb (v := (nI (10 + (8 * round)))) dL_law_188 (nI_add _ _) ?_
                                  refine lv_iload hx hb dL_law_189 (lv_at hl 0 rfl) ?_
                                  refine zv_iadd hx hb (v := (nI ((10 + (8 * round)) + i))) dL_law_191 (nI_add _ _) ?_
                                  refine zc_r (va_runS (As := [.ref (b), .int (nI ((10 + (8 * round)) + i))]) (rest := []) ⟨hx, hb, hml, hown, hts⟩ (c_L_cell l b L xs ((10 + (8 * round)) + i) (by omega) hL) (va_cwS 2 hts gL_law_L_cell rfl rfl rfl (by decide +kernel) ⟨Nat.le_of_ble_eq_true rfl, Nat.le_of_ble_eq_true rfl⟩) ⟨zX_blind, zp_X hX hbl hbA hS⟩ rfl rfl hl.1 rfl (lv_room (Nat.le_of_ble_eq_true rfl)) dL_law_192 ⟨Nat.le_of_ble_eq_true rfl, Nat.le_of_ble_eq_true rfl⟩).run ?_
                                  have hy192 := celV_lt L xs ((10 + (8 * round)) + i)
                                  generalize celV L xs ((10 + (8 * round)) + i) = y192 at hy192 ⊢
                                  refine lv_istore (lv' := [(9, .int (nI y192)), (8, .int (nI i)), (7, .int (nI many)), (4, .int (nI 1)), (5, .int (nI round)), (3, .int (nI k0)), (2, .int (nI n0)), (1, .ref (A 0)), (0, .ref (b))]) hx hb dL_law_195 hl (by decide) rfl (fun ls hl => ?_)
                                  refine lv_iload hx hb dL_law_197 (lv_at hl 0 rfl) ?_
                                  refine lv_iload_n hx hb dL_law_199 rfl (lv_at hl 6 rfl) ?_
                                  refine lv_aload_n hx hb dL_law_200 rfl (lv_at hl 7 rfl) ?_
                                  refine lv_iconst (v := (nI 3)) hx hb dL_law_201 (by decide) ?_
                                  refine zc_r (va_runV (As := [.int (nI 3)]) (rest := [.int (nI n0), .int (nI y192)]) ⟨hx, hb, hml, hown, hts⟩ (c_X5_count l D Y A B σ hn h r0 r1 r2 r3 r4 wt wn ((nI 3)) kσ kr) (cwV 1 hts gL_law_X5_count rfl rfl rfl (by decide +kernel) ⟨Nat.le_of_ble_eq_true rfl, Nat.le_of_ble_eq_true rfl⟩) ⟨zB_blind, va_recv hK hP (ci := 5) (q0 := 0) rfl rfl, zp_r hP hK hN⟩ rfl rfl hl.1 rfl (lv_room (Nat.le_of_ble_eq_true rfl)) dL_law_202 ⟨Nat.le_of_ble_eq_true rfl, Nat.le_of_ble_eq_true rfl⟩).run ?_
                                  refine zt_i (v := (nI (σ 2))) (cV3 _ _ _) ?_
                                  refine zv_imul hx hb (v := (nI (n0 * (σ 2)))) dL_law_205 (pk_mul _ _) ?_
                                  refine zv_irem hx hb (v := (nI (y192 % (n0 * (σ 2))))) dL_law_206 (by omega) (by omega) (zrem (by omega) (by omega) (by omega)) ?_
                                  obtain ⟨pl, epl⟩ : ∃ z9, z9 = y192 % (n0 * (σ 2)) := ⟨_, rfl⟩
                                  have hpl : pl < n0 * σ 2 := by rw [epl]; exact Nat.mod_lt _ hnb0
                                  refine zt_i (v := (nI pl)) (by rw [epl]) ?_
                                  refine lv_istore (lv' := [(10, .int (nI pl)), (9, .int (nI y192)), (8, .int (nI i)), (7, .int (nI many)), (4, .int (nI 1)), (5, .int (nI round)), (3, .int (nI k0)), (2, .int (nI n0)), (1, .ref (A 0)), (0, .ref (b))]) hx hb dL_law_207 hl (by decide) rfl (fun ls hl => ?_)
                                  refine lv_iload hx hb dL_law_209 (lv_at hl 1 rfl) ?_
                                  refine lv_bipush (v := (nI 97)) hx hb dL_law_211 (by decide) ?_
                                  refine zv_idiv hx hb (v := (nI (y192 / 97))) dL_law_213 (by omega) (by omega) (zdiv (by omega) (by omega) (by omega)) ?_
                                  refine lv_bipush (v := (nI 6)) hx hb dL_law_214 (by decide) ?_
                                  refine zv_irem hx hb (v := (nI ((y192 / 97) % 6))) dL_law_216 (by omega) (by omega) (zrem (by omega) (by omega) (by omega)) ?_
                                  refine zn_if_ne (tgt := 240)  hx hb dL_law_217 (by decide) (by omega) (fun c217 => ?_) (fun c217 => ?_)
                                  · refine lv_aload_n hx hb dL_law_240 rfl (lv_at hl 8 rfl) ?_
                                    refine lv_iload hx hb dL_law_241 (lv_at hl 0 rfl) ?_
                                    refine lv_iconst (v := (nI 1)) hx hb dL_law_243 (by decide) ?_
                                    refine zc_w (va_runV (As := [.int (nI pl), .int (nI 1)]) (rest := []) ⟨hx, hb, hml, hown, hts⟩ (c_X5_burst l D Y A B σ hn h r0 r1 r2 r3 r4 wt wn pl 1 kσ kr khn (by omega) (by omega) (by omega)) (cwV 2 hts gL_law_X5_burst rfl rfl rfl (by decide +kernel) ⟨Nat.le_of_ble_eq_true rfl, Nat.le_of_ble_eq_true rfl⟩) ⟨zBw_blind, va_recv hK hP (ci := 5) (q0 := 0) rfl rfl, zp_w hP hD hK hN⟩ rfl rfl hl.1 rfl (lv_room (Nat.le_of_ble_eq_true rfl)) dL_law_244 ⟨Nat.le_of_ble_eq_true rfl, Nat.le_of_ble_eq_true rfl⟩).run hS (zA_of hD) (fun H locs hP hz hk hS => ?_)
                                    have hD : va_D FA (CX Y A (recB B hn) (burI σ pl (pl + 1) (σ 0)) (recN hn) (recH h hn σ) (wdS (burI σ pl (pl + 1) (σ 0))) (ddS (burI σ pl (pl + 1) (σ 0))) (ag0 (burI σ pl (pl + 1) (σ 0)) r0) (ag1 (burI σ pl (pl + 1) (σ 0)) r1) (ag2 (burI σ pl (pl + 1) (σ 0)) r2) (ag3 (burI σ pl (pl + 1) (σ 0)) r2 r3) (ag4 (burI σ pl (pl + 1) (σ 0)) r2 r4) ((burI σ pl (pl + 1) (σ 0)) 0) (pak (itC (wdS (burI σ pl (pl + 1) (σ 0))) (burI σ pl (pl + 1) (σ 0))) ((burI σ pl (pl + 1) (σ 0)) 0)) (mkP (fun k9 => decide (k9 < (burI σ pl (pl + 1) (σ 0)) 0))) wt wn) := CX_dd (CX_recD hD)
                                    refine zt_i (v := (nI 1)) (congrArg nI (bur_1 (by omega) (by omega))) ?_
                                    refine lv_iconst (v := (nI 1)) hx hb dL_law_247 (by decide) ?_
                                    refine zn_icmp_ne (tgt := 255)  hx hb dL_law_248 (by decide) (by omega) (by omega) (fun c248 => ?_) (fun c248 => ?_)
                                    · exact absurd c248 (by omega)
                                    · refine lv_iconst (v := (nI 1)) hx hb dL_law_251 (by decide) ?_
                                      refine lv_goto (tgt := 256) hx hb dL_law_252 (by decide) ?_
                                      refine lv_istore (lv' := [(4, .int (nI 1)), (10, .int (nI pl)), (9, .int (nI y192)), (8, .int (nI i)), (7, .int (nI many)), (5, .int (nI round)), (3, .int (nI k0)), (2, .int (nI n0)), (1, .ref (A 0)), (0, .ref (b))]) hx hb dL_law_256 hl (by decide) rfl (fun ls hl => ?_)
                                      refine lv_iinc (v := (nI (i + 1))) (lv' := [(8, .int (nI (i + 1))), (4, .int (nI 1)), (10, .int (nI pl)), (9, .int (nI y192)), (7, .int (nI many)), (5, .int (nI round)), (3, .int (nI k0)), (2, .int (nI n0)), (1, .ref (A 0)), (0, .ref (b))]) hx hb dL_law_258 hl (k := 3) rfl (zinc _) (by decide) rfl (fun ls hl => ?_)
                                      refine lv_goto (tgt := 168) hx hb dL_law_261 (by decide) ?_
                                      have hP : va_P D vwCl (CX Y A ((recB B hn)) ((burI σ pl (pl + 1) (σ 0))) ((recN hn)) ((recH h hn σ)) (wdS (burI σ pl (pl + 1) (σ 0))) (ddS (burI σ pl (pl + 1) (σ 0))) ((ag0 (burI σ pl (pl + 1) (σ 0)) r0)) ((ag1 (burI σ pl (pl + 1) (σ 0)) r1)) ((ag2 (burI σ pl (pl + 1) (σ 0)) r2)) ((ag3 (burI σ pl (pl + 1) (σ 0)) r2 r3)) ((ag4 (burI σ pl (pl + 1) (σ 0)) r2 r4)) ((burI σ pl (pl + 1) (σ 0)) 0) (pak (itC (wdS (burI σ pl (pl + 1) (σ 0))) (burI σ pl (pl + 1) (σ 0))) ((burI σ pl (pl + 1) (σ 0)) 0)) (mkP (fun k9 => decide (k9 < (burI σ pl (pl + 1) (σ 0)) 0))) wt wn) H := hP
                                      have hD : va_D FA (CX Y A ((recB B hn)) ((burI σ pl (pl + 1) (σ 0))) ((recN hn)) ((recH h hn σ)) (wdS (burI σ pl (pl + 1) (σ 0))) (ddS (burI σ pl (pl + 1) (σ 0))) ((ag0 (burI σ pl (pl + 1) (σ 0)) r0)) ((ag1 (burI σ pl (pl + 1) (σ 0)) r1)) ((ag2 (burI σ pl (pl + 1) (σ 0)) r2)) ((ag3 (burI σ pl (pl + 1) (σ 0)) r2 r3)) ((ag4 (burI σ pl (pl + 1) (σ 0)) r2 r4)) ((burI σ pl (pl + 1) (σ 0)) 0) (pak (itC (wdS (burI σ pl (pl + 1) (σ 0))) (burI σ pl (pl + 1) (σ 0))) ((burI σ pl (pl + 1) (σ 0)) 0)) (mkP (fun k9 => decide (k9 < (burI σ pl (pl + 1) (σ 0)) 0))) wt wn) := CX_dd hD
                                      exact ih168 (i + 1) (recB B hn) (burI σ pl (pl + 1) (σ 0)) (recN hn) (recH h hn σ) (ag0 (burI σ pl (pl + 1) (σ 0)) r0) (ag1 (burI σ pl (pl + 1) (σ 0)) r1) (ag2 (burI σ pl (pl + 1) (σ 0)) r2) (ag3 (burI σ pl (pl + 1) (σ 0)) r2 r3) (ag4 (burI σ pl (pl + 1) (σ 0)) r2 r4) (by omega) (zWF_bur kσ _ _ _) (zCon_ag _ _ _ _ _ _) ((rec_N khn).1) (rec_K kσ kh) ((burI_out _ _ _ _ (by omega)).trans hs0) ((burI_out _ _ _ _ (by omega)).trans hs1) (by omega) H locs hP hD hS ls (lv_sub hl [0, 4, 1, 5, 6, 7, 8, 9] rfl)
                                  · refine lv_aload_n hx hb dL_law_220 rfl (lv_at hl 8 rfl) ?_
                                    refine lv_iload hx hb dL_law_221 (lv_at hl 1 rfl) ?_
                                    refine lv_iload_n hx hb dL_law_223 rfl (lv_at hl 7 rfl) ?_
                                    refine zv_irem hx hb (v := (nI (y192 % n0))) dL_law_224 (by omega) (by omega) (zrem (by omega) (by omega) (by omega)) ?_
                                    obtain ⟨j0, ej0⟩ : ∃ z9, z9 = y192 % n0 := ⟨_, rfl⟩
                                    have hj0 : j0 < n0 := by rw [ej0]; exact Nat.mod_lt _ (by omega)
                                    have hz0 := zL_01 (σ 7) j0
                                    refine zt_i (v := (nI j0)) (by rw [ej0]) ?_
                                    refine lv_iconst (v := (nI 1)) hx hb dL_law_225 (by decide) ?_
                                    refine zc_w (va_runV (As := [.int (nI j0), .int (nI 1)]) (rest := []) ⟨hx, hb, hml, hown, hts⟩ (c_X5_lose l D Y A B σ hn h r0 r1 r2 r3 r4 wt wn j0 1 kσ kr khn (by omega) (by decide)) (cwV 2 hts gL_law_X5_lose rfl rfl rfl (by decide +kernel) ⟨Nat.le_of_ble_eq_true rfl, Nat.le_of_ble_eq_true rfl⟩) ⟨zBw_blind, va_recv hK hP (ci := 5) (q0 := 0) rfl rfl, zp_w hP hD hK hN⟩ rfl rfl hl.1 rfl (lv_room (Nat.le_of_ble_eq_true rfl)) dL_law_226 ⟨Nat.le_of_ble_eq_true rfl, Nat.le_of_ble_eq_true rfl⟩).run hS (zA_of hD) (fun H locs hP hz hk hS => ?_)
                                    have hD : va_D FA (CX Y A (recB B hn) (losS σ j0 1) (recN hn) (recH h hn σ) (wdS (losS σ j0 1)) (ddS (losS σ j0 1)) (ag0 (losS σ j0 1) r0) (ag1 (losS σ j0 1) r1) (ag2 (losS σ j0 1) r2) (ag3 (losS σ j0 1) r2 r3) (ag4 (losS σ j0 1) r2 r4) ((losS σ j0 1) 0) (pak (itC (wdS (losS σ j0 1)) (losS σ j0 1)) ((losS σ j0 1) 0)) (mkP (fun k9 => decide (k9 < (losS σ j0 1) 0))) wt wn) := CX_dd (CX_recD hD)
                                    refine zn_if_lt (tgt := 236)  hx hb dL_law_229 (by decide) (by omega) (fun c229 => ?_) (fun c229 => ?_)
                                    · exact absurd c229 (by omega)
                                    · refine lv_iconst (v := (nI 1)) hx hb dL_law_232 (by decide) ?_
                                      refine lv_goto (tgt := 256) hx hb dL_law_233 (by decide) ?_
                                      refine lv_istore (lv' := [(4, .int (nI 1)), (10, .int (nI pl)), (9, .int (nI y192)), (8, .int (nI i)), (7, .int (nI many)), (5, .int (nI round)), (3, .int (nI k0)), (2, .int (nI n0)), (1, .ref (A 0)), (0, .ref (b))]) hx hb dL_law_256 hl (by decide) rfl (fun ls hl => ?_)
                                      refine lv_iinc (v := (nI (i + 1))) (lv' := [(8, .int (nI (i + 1))), (4, .int (nI 1)), (10, .int (nI pl)), (9, .int (nI y192)), (7, .int (nI many)), (5, .int (nI round)), (3, .int (nI k0)), (2, .int (nI n0)), (1, .ref (A 0)), (0, .ref (b))]) hx hb dL_law_258 hl (k := 3) rfl (zinc _) (by decide) rfl (fun ls hl => ?_)
                                      refine lv_goto (tgt := 168) hx hb dL_law_261 (by decide) ?_
                                      have hP : va_P D vwCl (CX Y A ((recB B hn)) ((losS σ j0 1)) ((recN hn)) ((recH h hn σ)) (wdS (losS σ j0 1)) (ddS (losS σ j0 1)) ((ag0 (losS σ j0 1) r0)) ((ag1 (losS σ j0 1) r1)) ((ag2 (losS σ j0 1) r2)) ((ag3 (losS σ j0 1) r2 r3)) ((ag4 (losS σ j0 1) r2 r4)) ((losS σ j0 1) 0) (pak (itC (wdS (losS σ j0 1)) (losS σ j0 1)) ((losS σ j0 1) 0)) (mkP (fun k9 => decide (k9 < (losS σ j0 1) 0))) wt wn) H := hP
                                      have hD : va_D FA (CX Y A ((recB B hn)) ((losS σ j0 1)) ((recN hn)) ((recH h hn σ)) (wdS (losS σ j0 1)) (ddS (losS σ j0 1)) ((ag0 (losS σ j0 1) r0)) ((ag1 (losS σ j0 1) r1)) ((ag2 (losS σ j0 1) r2)) ((ag3 (losS σ j0 1) r2 r3)) ((ag4 (losS σ j0 1) r2 r4)) ((losS σ j0 1) 0) (pak (itC (wdS (losS σ j0 1)) (losS σ j0 1)) ((losS σ j0 1) 0)) (mkP (fun k9 => decide (k9 < (losS σ j0 1) 0))) wt wn) := CX_dd hD
                                      exact ih168 (i + 1) (recB B hn) (losS σ j0 1) (recN hn) (recH h hn σ) (ag0 (losS σ j0 1) r0) (ag1 (losS σ j0 1) r1) (ag2 (losS σ j0 1) r2) (ag3 (losS σ j0 1) r2 r3) (ag4 (losS σ j0 1) r2 r4) (by omega) (zWF_los kσ (by omega)) (zCon_ag _ _ _ _ _ _) ((rec_N khn).1) (rec_K kσ kh) ((zu_ne _ _ _ (by decide)).trans hs0) ((zu_ne _ _ _ (by decide)).trans hs1) (by omega) H locs hP hD hS ls (lv_sub hl [0, 4, 1, 5, 6, 7, 8, 9] rfl)
                          have hP : va_P D vwCl (CX Y A ((recB B hn)) ((sndI σ m0 (σ 0))) ((recN hn)) ((recH h hn σ)) (wdS (sndI σ m0 (σ 0))) (ddS (sndI σ m0 (σ 0))) ((ag0 (sndI σ m0 (σ 0)) r0)) ((ag1 (sndI σ m0 (σ 0)) r1)) ((ag2 (sndI σ m0 (σ 0)) r2)) ((ag3 (sndI σ m0 (σ 0)) r2 r3)) ((ag4 (sndI σ m0 (σ 0)) r2 r4)) ((sndI σ m0 (σ 0)) 0) (pak (itC (wdS (sndI σ m0 (σ 0))) (sndI σ m0 (σ 0))) ((sndI σ m0 (σ 0)) 0)) (mkP (fun k9 => decide (k9 < (sndI σ m0 (σ 0)) 0))) wt wn) H := hP
                          have hD : va_D FA (CX Y A ((recB B hn)) ((sndI σ m0 (σ 0))) ((recN hn)) ((recH h hn σ)) (wdS (sndI σ m0 (σ 0))) (ddS (sndI σ m0 (σ 0))) ((ag0 (sndI σ m0 (σ 0)) r0)) ((ag1 (sndI σ m0 (σ 0)) r1)) ((ag2 (sndI σ m0 (σ 0)) r2)) ((ag3 (sndI σ m0 (σ 0)) r2 r3)) ((ag4 (sndI σ m0 (σ 0)) r2 r4)) ((sndI σ m0 (σ 0)) 0) (pak (itC (wdS (sndI σ m0 (σ 0))) (sndI σ m0 (σ 0))) ((sndI σ m0 (σ 0)) 0)) (mkP (fun k9 => decide (k9 < (sndI σ m0 (σ 0)) 0))) wt wn) := CX_dd hD
                          exact L168 (many - 0 + 1) 0 (recB B hn) (sndI σ m0 (σ 0)) (recN hn) (recH h hn σ) (ag0 (sndI σ m0 (σ 0)) r0) (ag1 (sndI σ m0 (σ 0)) r1) (ag2 (sndI σ m0 (σ 0)) r2) (ag3 (sndI σ m0 (σ 0)) r2 r3) (ag4 (sndI σ m0 (σ 0)) r2 r4) (by omega) (kτ1) (zCon_ag _ _ _ _ _ _) ((rec_N khn).1) (rec_K kσ kh) ((sndI_lo _ _ _ (by decide)).trans hs0) ((sndI_lo _ _ _ (by decide)).trans hs1) (Nat.lt_succ_self _) _ _ hP hD hS ls (lv_sub hl [0, 1, 2, 4, 5, 6, 7, 8] rfl)
        have hP : va_P D vwCl (CX Y A ((recB B hn)) ((outS σ n0 k0)) ((recN hn)) ((recH h hn σ)) (wdS (outS σ n0 k0)) (ddS (outS σ n0 k0)) ((ag0 (outS σ n0 k0) r0)) ((ag1 (outS σ n0 k0) r1)) ((ag2 (outS σ n0 k0) r2)) ((ag3 (outS σ n0 k0) r2 r3)) ((ag4 (outS σ n0 k0) r2 r4)) ((outS σ n0 k0) 0) (pak (itC (wdS (outS σ n0 k0)) (outS σ n0 k0)) ((outS σ n0 k0) 0)) (mkP (fun k9 => decide (k9 < (outS σ n0 k0) 0))) wt wn) H := hP
        have hD : va_D FA (CX Y A ((recB B hn)) ((outS σ n0 k0)) ((recN hn)) ((recH h hn σ)) (wdS (outS σ n0 k0)) (ddS (outS σ n0 k0)) ((ag0 (outS σ n0 k0) r0)) ((ag1 (outS σ n0 k0) r1)) ((ag2 (outS σ n0 k0) r2)) ((ag3 (outS σ n0 k0) r2 r3)) ((ag4 (outS σ n0 k0) r2 r4)) ((outS σ n0 k0) 0) (pak (itC (wdS (outS σ n0 k0)) (outS σ n0 k0)) ((outS σ n0 k0) 0)) (mkP (fun k9 => decide (k9 < (outS σ n0 k0) 0))) wt wn) := CX_dd hD
        exact L65 (4 - 0 + 1) 0 (recB B hn) (outS σ n0 k0) (recN hn) (recH h hn σ) (ag0 (outS σ n0 k0) r0) (ag1 (outS σ n0 k0) r1) (ag2 (outS σ n0 k0) r2) (ag3 (outS σ n0 k0) r2 r3) (ag4 (outS σ n0 k0) r2 r4) (by omega) (kτ0) (zCon_ag _ _ _ _ _ _) ((rec_N khn).1) (rec_K kσ kh) (rfl) (rfl) (Or.inl rfl) (Nat.lt_succ_self _) _ _ hP hD hS ls (lv_sub hl [0, 1, 2, 3, 4, 5] rfl)
