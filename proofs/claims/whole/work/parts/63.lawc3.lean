set_option maxHeartbeats 4000000 in
set_option maxRecDepth 100000 in
theorem law_12 {p : Program} {e : Env} {s : State} {m : MethodId} {below : List Frame} {meth : Method} {c : Code} (l : Launch) {b L : Nat} {xs : Nat → Int32} (hL : L ≤ 1536) (C0 : lw_At p s m meth c b L xs) {D : va_G} {Y : Nat → ClassId} (hK : va_K D vwCl (zT Y) s) (hN : zNw s) {A M : Nat → Nat} {i : Nat} (hi : i + 3 ≤ L) (kk : zGo p l e s m below meth c b D Y A M i 808) : zGo p l e s m below meth c b D Y A M i 474 := by
  intro B σ hn h r0 r1 r2 r3 r4 wt wn hf sy gp i0 i1 i2 i3 fo de hI H locs hP hD hS ls hl
  obtain ⟨hx, hb, hr, hml, hown9, hts0, hX, hbl, hlocks, hgv⟩ := id C0
  have hown : s.vm.findClass RL = some m.cls := hown9
  have hts : ∀ w ∈ wsL_law, w.before #[Value.ref b] s = true := fun w hw => hts0 w (wsL_law_in w hw)
  have hbA : ¬ (fun q : Nat => s.heap.size ≤ q) b := Nat.not_le.mpr hbl
  obtain ⟨kσ, kr, khn, ksy, kgp, kM, kwt, kwn, kh, kf⟩ := id hI
  obtain ⟨n3, n12, d1, d3, dn, b4, b10, gl, lm, sn, wl, wnz⟩ := id kσ
  obtain ⟨x1, hx1⟩ : ∃ x, xs (i + 1) = x := ⟨_, rfl⟩
  obtain ⟨x2, hx2⟩ : ∃ x, xs (i + 2) = x := ⟨_, rfl⟩
  by_cases hbad : ¬ (0 ≤ (x1).toInt ∧ (x1).toInt < ((σ 2 * σ 0 : Nat) : Int) ∧ 1 ≤ (x2).toInt ∧ (x2).toInt ≤ ((σ 2 * σ 0 : Nat) : Int) - (x1).toInt)
  · refine lv_aload_n hx hb dL_law_474 rfl (lv_at hl 2 rfl) ?_
    refine lv_aload_n hx hb dL_law_475 rfl (lv_at hl 1 rfl) ?_
    refine lv_iload_n hx hb dL_law_476 rfl (lv_at hl 0 rfl) ?_
    refine lv_iconst (v := nI 1) hx hb dL_law_477 (by decide) ?_
    refine zv_iadd hx hb (v := nI (i + 1)) dL_law_478 (nI_add _ _) ?_
    refine zl_sld hx hb hX hbl hbA hS (show i + 1 < L by omega) (by omega) (v := (x1)) hx1 dL_law_479 ?_
    refine lv_aload_n hx hb dL_law_480 rfl (lv_at hl 1 rfl) ?_
    refine lv_iload_n hx hb dL_law_481 rfl (lv_at hl 0 rfl) ?_
    refine lv_iconst (v := nI 2) hx hb dL_law_482 (by decide) ?_
    refine zv_iadd hx hb (v := nI (i + 2)) dL_law_483 (nI_add _ _) ?_
    refine zl_sld hx hb hX hbl hbA hS (show i + 2 < L by omega) (by omega) (v := (x2)) hx2 dL_law_484 ?_
    refine zc_r (va_runV (C := RX5) (As := [.int (x1), .int (x2)]) (rest := []) ⟨hx, hb, hml, hown, hts⟩ (c_X5_burst_bad l D Y A B σ hn h r0 r1 r2 r3 r4 wt wn x1 x2 kσ kr hbad) (cwV 2 hts gL_law_X5_burst rfl rfl rfl (by decide +kernel) ⟨Nat.le_of_ble_eq_true rfl, Nat.le_of_ble_eq_true rfl⟩) ⟨zB_blind, va_recv hK (zP_left hP) (ci := 5) (q0 := 0) rfl rfl, zp_r (zP_left hP) hK hN⟩ rfl rfl hl.1 rfl (lv_room (Nat.le_of_ble_eq_true rfl)) dL_law_485 ⟨Nat.le_of_ble_eq_true rfl, Nat.le_of_ble_eq_true rfl⟩).run ?_
    refine lv_aload_n hx hb dL_law_488 rfl (lv_at hl 3 rfl) ?_
    refine lv_aload_n hx hb dL_law_489 rfl (lv_at hl 1 rfl) ?_
    refine lv_iload_n hx hb dL_law_490 rfl (lv_at hl 0 rfl) ?_
    refine lv_iconst (v := nI 1) hx hb dL_law_491 (by decide) ?_
    refine zv_iadd hx hb (v := nI (i + 1)) dL_law_492 (nI_add _ _) ?_
    refine zl_sld hx hb hX hbl hbA hS (show i + 1 < L by omega) (by omega) (v := (x1)) hx1 dL_law_493 ?_
    refine lv_aload_n hx hb dL_law_494 rfl (lv_at hl 1 rfl) ?_
    refine lv_iload_n hx hb dL_law_495 rfl (lv_at hl 0 rfl) ?_
    refine lv_iconst (v := nI 2) hx hb dL_law_496 (by decide) ?_
    refine zv_iadd hx hb (v := nI (i + 2)) dL_law_497 (nI_add _ _) ?_
    refine zl_sld hx hb hX hbl hbA hS (show i + 2 < L by omega) (by omega) (v := (x2)) hx2 dL_law_498 ?_
    refine zc_r (va_runV (C := RX6) (As := [.int (x1), .int (x2)]) (rest := [.int (-1001)]) ⟨hx, hb, hml, hown, hts⟩ (c_X6_burst_bad l D Y M σ hf hn wt wn sy gp i0 i1 i2 i3 fo de x1 x2 kσ ksy kgp hbad) (cwV 2 hts gL_law_X6_burst rfl rfl rfl (by decide +kernel) ⟨Nat.le_of_ble_eq_true rfl, Nat.le_of_ble_eq_true rfl⟩) ⟨zB_blind, va_recv hK (zP_right hP) (ci := 6) (q0 := 0) rfl rfl, zp_r (zP_right hP) hK hN⟩ rfl rfl hl.1 rfl (lv_room (Nat.le_of_ble_eq_true rfl)) dL_law_499 ⟨Nat.le_of_ble_eq_true rfl, Nat.le_of_ble_eq_true rfl⟩).run ?_
    refine lv_icmp_eq (tgt := 808) hx hb dL_law_502 (by decide) (fun _ => ?_) (fun h9 => absurd (rfl) h9)
    exact kk B σ hn h r0 r1 r2 r3 r4 wt wn hf sy gp i0 i1 i2 i3 fo de (hI) H locs hP hD hS ls hl
  · obtain ⟨j1, rfl, hj1⟩ := zNat9 x1 (by omega)
    have e1 := zt_n hj1
    obtain ⟨j2, rfl, hj2⟩ := zNat9 x2 (by omega)
    have e2 := zt_n hj2
    have kτ := zWF_bur kσ j1 (j1 + j2) (σ 0)
    refine lv_aload_n hx hb dL_law_474 rfl (lv_at hl 2 rfl) ?_
    refine lv_aload_n hx hb dL_law_475 rfl (lv_at hl 1 rfl) ?_
    refine lv_iload_n hx hb dL_law_476 rfl (lv_at hl 0 rfl) ?_
    refine lv_iconst (v := nI 1) hx hb dL_law_477 (by decide) ?_
    refine zv_iadd hx hb (v := nI (i + 1)) dL_law_478 (nI_add _ _) ?_
    refine zl_sld hx hb hX hbl hbA hS (show i + 1 < L by omega) (by omega) (v := (nI j1)) hx1 dL_law_479 ?_
    refine lv_aload_n hx hb dL_law_480 rfl (lv_at hl 1 rfl) ?_
    refine lv_iload_n hx hb dL_law_481 rfl (lv_at hl 0 rfl) ?_
    refine lv_iconst (v := nI 2) hx hb dL_law_482 (by decide) ?_
    refine zv_iadd hx hb (v := nI (i + 2)) dL_law_483 (nI_add _ _) ?_
    refine zl_sld hx hb hX hbl hbA hS (show i + 2 < L by omega) (by omega) (v := (nI j2)) hx2 dL_law_484 ?_
    refine zc_wl (va_runV (C := RX5) (As := [.int (nI j1), .int (nI j2)]) (rest := []) ⟨hx, hb, hml, hown, hts⟩ (c_X5_burst l D Y A B σ hn h r0 r1 r2 r3 r4 wt wn j1 j2 kσ kr khn (by omega) (by omega) (by omega)) (cwV 2 hts gL_law_X5_burst rfl rfl rfl (by decide +kernel) ⟨Nat.le_of_ble_eq_true rfl, Nat.le_of_ble_eq_true rfl⟩) ⟨zBw_blind, va_recv hK (zP_left hP) (ci := 5) (q0 := 0) rfl rfl, zp_w (zP_left hP) (zD_left hD) hK hN⟩ rfl rfl hl.1 rfl (lv_room (Nat.le_of_ble_eq_true rfl)) dL_law_485 ⟨Nat.le_of_ble_eq_true rfl, Nat.le_of_ble_eq_true rfl⟩).run hP hD hS (CX_dd (CX_recD (zD_self (zD_left hD)))) (fun H locs hP hD hS => ?_)
    refine lv_aload_n hx hb dL_law_488 rfl (lv_at hl 3 rfl) ?_
    refine lv_aload_n hx hb dL_law_489 rfl (lv_at hl 1 rfl) ?_
    refine lv_iload_n hx hb dL_law_490 rfl (lv_at hl 0 rfl) ?_
    refine lv_iconst (v := nI 1) hx hb dL_law_491 (by decide) ?_
    refine zv_iadd hx hb (v := nI (i + 1)) dL_law_492 (nI_add _ _) ?_
    refine zl_sld hx hb hX hbl hbA hS (show i + 1 < L by omega) (by omega) (v := (nI j1)) hx1 dL_law_493 ?_
    refine lv_aload_n hx hb dL_law_494 rfl (lv_at hl 1 rfl) ?_
    refine lv_iload_n hx hb dL_law_495 rfl (lv_at hl 0 rfl) ?_
    refine lv_iconst (v := nI 2) hx hb dL_law_496 (by decide) ?_
    refine zv_iadd hx hb (v := nI (i + 2)) dL_law_497 (nI_add _ _) ?_
    refine zl_sld hx hb hX hbl hbA hS (show i + 2 < L by omega) (by omega) (v := (nI j2)) hx2 dL_law_498 ?_
    refine zc_wr (va_runV (C := RX6) (As := [.int (nI j1), .int (nI j2)]) (rest := [.int (nI (cnt (fun j => !(bmask (σ 2) j j1 (j1 + j2) == 0)) (σ 0)))]) ⟨hx, hb, hml, hown, hts⟩ (c_X6_burst l D Y M σ hf hn wt wn sy gp i0 i1 i2 i3 fo de j1 j2 kσ ksy kgp khn (by omega) (by omega) (by omega)) (cwV 2 hts gL_law_X6_burst rfl rfl rfl (by decide +kernel) ⟨Nat.le_of_ble_eq_true rfl, Nat.le_of_ble_eq_true rfl⟩) ⟨zBw_blind, va_recv hK (zP_right hP) (ci := 6) (q0 := 0) rfl rfl, zp_w (zP_right hP) (zD_right hD) hK hN⟩ rfl rfl hl.1 rfl (lv_room (Nat.le_of_ble_eq_true rfl)) dL_law_499 ⟨Nat.le_of_ble_eq_true rfl, Nat.le_of_ble_eq_true rfl⟩).run hP hD hS (MX_dd ((zD_self (zD_right hD)))) (fun H locs hP hD hS => ?_)
    refine lv_icmp_eq (tgt := 808) hx hb dL_law_502 (by decide) (fun _ => ?_) (fun h9 => absurd (rfl) h9)
    exact kk (recB B hn) (burI σ j1 (j1 + j2) (σ 0)) (recN hn) (recH h hn σ) (ag0 (burI σ j1 (j1 + j2) (σ 0)) r0) (ag1 (burI σ j1 (j1 + j2) (σ 0)) r1) (ag2 (burI σ j1 (j1 + j2) (σ 0)) r2) (ag3 (burI σ j1 (j1 + j2) (σ 0)) r2 r3) (ag4 (burI σ j1 (j1 + j2) (σ 0)) r2 r4) wt wn (recF hf hn σ) sy gp i0 i1 i2 i3 fo de (inv_same hI kτ (bur_7 kM) (burI_out _ _ _ _ (by omega)) (bur_g σ j1 (j1 + j2) (σ 0))) H locs hP hD hS ls hl
set_option maxHeartbeats 4000000 in
set_option maxRecDepth 100000 in
theorem law_13 {p : Program} {e : Env} {s : State} {m : MethodId} {below : List Frame} {meth : Method} {c : Code} (l : Launch) {b L : Nat} {xs : Nat → Int32} (hL : L ≤ 1536) (C0 : lw_At p s m meth c b L xs) {D : va_G} {Y : Nat → ClassId} (hK : va_K D vwCl (zT Y) s) (hN : zNw s) {A M : Nat → Nat} {i : Nat} (hi : i + 3 ≤ L) (kk : zGo p l e s m below meth c b D Y A M i 808) : zGo p l e s m below meth c b D Y A M i 507 := by
  intro B σ hn h r0 r1 r2 r3 r4 wt wn hf sy gp i0 i1 i2 i3 fo de hI H locs hP hD hS ls hl
  obtain ⟨hx, hb, hr, hml, hown9, hts0, hX, hbl, hlocks, hgv⟩ := id C0
  have hown : s.vm.findClass RL = some m.cls := hown9
  have hts : ∀ w ∈ wsL_law, w.before #[Value.ref b] s = true := fun w hw => hts0 w (wsL_law_in w hw)
  have hbA : ¬ (fun q : Nat => s.heap.size ≤ q) b := Nat.not_le.mpr hbl
  obtain ⟨kσ, kr, khn, ksy, kgp, kM, kwt, kwn, kh, kf⟩ := id hI
  obtain ⟨n3, n12, d1, d3, dn, b4, b10, gl, lm, sn, wl, wnz⟩ := id kσ
  by_cases hlm : lawM σ < nMs σ
  · have hm : lawM σ < 2 ^ (4 * σ 1) := hlm
    have kτ := zWF_cas kσ (i := σ 0) hm
    refine lv_aload_n hx hb dL_law_507 rfl (lv_at hl 2 rfl) ?_
    refine zc_wl (va_runV (C := RX5) (As := []) (rest := []) ⟨hx, hb, hml, hown, hts⟩ (c_X5_sendCascade l D Y A B σ hn h r0 r1 r2 r3 r4 wt wn  kσ kr khn hlm) (cwV 0 hts gL_law_X5_sendCascade rfl rfl rfl (by decide +kernel) ⟨Nat.le_of_ble_eq_true rfl, Nat.le_of_ble_eq_true rfl⟩) ⟨zBw_blind, va_recv hK (zP_left hP) (ci := 5) (q0 := 0) rfl rfl, zp_w (zP_left hP) (zD_left hD) hK hN⟩ rfl rfl hl.1 rfl (lv_room (Nat.le_of_ble_eq_true rfl)) dL_law_508 ⟨Nat.le_of_ble_eq_true rfl, Nat.le_of_ble_eq_true rfl⟩).run hP hD hS (CX_dd (CX_recD (zD_self (zD_left hD)))) (fun H locs hP hD hS => ?_)
    refine lv_aload_n hx hb dL_law_511 rfl (lv_at hl 3 rfl) ?_
    refine zc_wr (va_runV (C := RX6) (As := []) (rest := [.int (nI (casN σ (lawM σ) (σ 0)))]) ⟨hx, hb, hml, hown, hts⟩ (c_X6_sendCascade l D Y M σ hf hn wt wn sy gp i0 i1 i2 i3 fo de  kσ ksy kgp khn hlm) (cwV 0 hts gL_law_X6_sendCascade rfl rfl rfl (by decide +kernel) ⟨Nat.le_of_ble_eq_true rfl, Nat.le_of_ble_eq_true rfl⟩) ⟨zBw_blind, va_recv hK (zP_right hP) (ci := 6) (q0 := 0) rfl rfl, zp_w (zP_right hP) (zD_right hD) hK hN⟩ rfl rfl hl.1 rfl (lv_room (Nat.le_of_ble_eq_true rfl)) dL_law_512 ⟨Nat.le_of_ble_eq_true rfl, Nat.le_of_ble_eq_true rfl⟩).run hP hD hS (MX_dd ((zD_self (zD_right hD)))) (fun H locs hP hD hS => ?_)
    refine lv_icmp_eq (tgt := 808) hx hb dL_law_515 (by decide) (fun _ => ?_) (fun h9 => absurd (rfl) h9)
    exact kk (recB B hn) (casI σ (lawM σ) (σ 0)) (recN hn) (recH h hn σ) (ag0 (casI σ (lawM σ) (σ 0)) r0) (ag1 (casI σ (lawM σ) (σ 0)) r1) (ag2 (casI σ (lawM σ) (σ 0)) r2) (ag3 (casI σ (lawM σ) (σ 0)) r2 r3) (ag4 (casI σ (lawM σ) (σ 0)) r2 r4) wt wn (recF hf hn σ) sy gp (ag0 σ i0) (ag1 σ i1) (ag2 σ i2) (insI (trS σ) i3 (σ 0)) (decodeV σ) (decTV σ) (inv_same hI kτ (cas_7 kM) (casI_out _ _ _ (by omega)) (cas_g σ (lawM σ) (σ 0))) H locs hP hD hS ls hl
  · refine lv_aload_n hx hb dL_law_507 rfl (lv_at hl 2 rfl) ?_
    refine zc_r (va_runV (C := RX5) (As := []) (rest := []) ⟨hx, hb, hml, hown, hts⟩ (c_X5_sendCascade_not l D Y A B σ hn h r0 r1 r2 r3 r4 wt wn  kσ kr (by omega)) (cwV 0 hts gL_law_X5_sendCascade rfl rfl rfl (by decide +kernel) ⟨Nat.le_of_ble_eq_true rfl, Nat.le_of_ble_eq_true rfl⟩) ⟨zB_blind, va_recv hK (zP_left hP) (ci := 5) (q0 := 0) rfl rfl, zp_r (zP_left hP) hK hN⟩ rfl rfl hl.1 rfl (lv_room (Nat.le_of_ble_eq_true rfl)) dL_law_508 ⟨Nat.le_of_ble_eq_true rfl, Nat.le_of_ble_eq_true rfl⟩).run ?_
    refine lv_aload_n hx hb dL_law_511 rfl (lv_at hl 3 rfl) ?_
    refine zc_wr (va_runV (C := RX6) (As := []) (rest := [.int (-1002)]) ⟨hx, hb, hml, hown, hts⟩ (c_X6_sendCascade_not l D Y M σ hf hn wt wn sy gp i0 i1 i2 i3 fo de  kσ ksy kgp (by omega)) (cwV 0 hts gL_law_X6_sendCascade rfl rfl rfl (by decide +kernel) ⟨Nat.le_of_ble_eq_true rfl, Nat.le_of_ble_eq_true rfl⟩) ⟨zBw_blind, va_recv hK (zP_right hP) (ci := 6) (q0 := 0) rfl rfl, zp_w (zP_right hP) (zD_right hD) hK hN⟩ rfl rfl hl.1 rfl (lv_room (Nat.le_of_ble_eq_true rfl)) dL_law_512 ⟨Nat.le_of_ble_eq_true rfl, Nat.le_of_ble_eq_true rfl⟩).run hP hD hS (MX_dd ((zD_self (zD_right hD)))) (fun H locs hP hD hS => ?_)
    refine lv_icmp_eq (tgt := 808) hx hb dL_law_515 (by decide) (fun _ => ?_) (fun h9 => absurd (rfl) h9)
    exact kk B σ hn h r0 r1 r2 r3 r4 wt wn hf sy gp (ag0 σ i0) (ag1 σ i1) (ag2 σ i2) (insI (trS σ) i3 (σ 0)) (decodeV σ) (decTV σ) (hI) H locs hP hD hS ls hl
set_option maxHeartbeats 4000000 in
set_option maxRecDepth 100000 in
theorem law_14 {p : Program} {e : Env} {s : State} {m : MethodId} {below : List Frame} {meth : Method} {c : Code} (l : Launch) {b L : Nat} {xs : Nat → Int32} (hL : L ≤ 1536) (C0 : lw_At p s m meth c b L xs) {D : va_G} {Y : Nat → ClassId} (hK : va_K D vwCl (zT Y) s) (hN : zNw s) {A M : Nat → Nat} {i : Nat} (hi : i + 3 ≤ L) (kk : zGo p l e s m below meth c b D Y A M i 808) : zGo p l e s m below meth c b D Y A M i 520 := by
  intro B σ hn h r0 r1 r2 r3 r4 wt wn hf sy gp i0 i1 i2 i3 fo de hI H locs hP hD hS ls hl
  obtain ⟨hx, hb, hr, hml, hown9, hts0, hX, hbl, hlocks, hgv⟩ := id C0
  have hown : s.vm.findClass RL = some m.cls := hown9
  have hts : ∀ w ∈ wsL_law, w.before #[Value.ref b] s = true := fun w hw => hts0 w (wsL_law_in w hw)
  have hbA : ¬ (fun q : Nat => s.heap.size ≤ q) b := Nat.not_le.mpr hbl
  obtain ⟨kσ, kr, khn, ksy, kgp, kM, kwt, kwn, kh, kf⟩ := id hI
  obtain ⟨n3, n12, d1, d3, dn, b4, b10, gl, lm, sn, wl, wnz⟩ := id kσ
  obtain ⟨x1, hx1⟩ : ∃ x, xs (i + 1) = x := ⟨_, rfl⟩
  refine lv_aload_n hx hb dL_law_520 rfl (lv_at hl 2 rfl) ?_
  refine lv_aload_n hx hb dL_law_521 rfl (lv_at hl 1 rfl) ?_
  refine lv_iload_n hx hb dL_law_522 rfl (lv_at hl 0 rfl) ?_
  refine lv_iconst (v := nI 1) hx hb dL_law_523 (by decide) ?_
  refine zv_iadd hx hb (v := nI (i + 1)) dL_law_524 (nI_add _ _) ?_
  refine zl_sld hx hb hX hbl hbA hS (show i + 1 < L by omega) (by omega) (v := (x1)) hx1 dL_law_525 ?_
  refine zc_r (va_runV (C := RX5) (As := [.int (x1)]) (rest := []) ⟨hx, hb, hml, hown, hts⟩ (c_X5_received l D Y A B σ hn h r0 r1 r2 r3 r4 wt wn x1 kσ kr) (cwV 1 hts gL_law_X5_received rfl rfl rfl (by decide +kernel) ⟨Nat.le_of_ble_eq_true rfl, Nat.le_of_ble_eq_true rfl⟩) ⟨zB_blind, va_recv hK (zP_left hP) (ci := 5) (q0 := 0) rfl rfl, zp_r (zP_left hP) hK hN⟩ rfl rfl hl.1 rfl (lv_room (Nat.le_of_ble_eq_true rfl)) dL_law_526 ⟨Nat.le_of_ble_eq_true rfl, Nat.le_of_ble_eq_true rfl⟩).run ?_
  refine lv_aload_n hx hb dL_law_529 rfl (lv_at hl 3 rfl) ?_
  refine lv_aload_n hx hb dL_law_530 rfl (lv_at hl 1 rfl) ?_
  refine lv_iload_n hx hb dL_law_531 rfl (lv_at hl 0 rfl) ?_
  refine lv_iconst (v := nI 1) hx hb dL_law_532 (by decide) ?_
  refine zv_iadd hx hb (v := nI (i + 1)) dL_law_533 (nI_add _ _) ?_
  refine zl_sld hx hb hX hbl hbA hS (show i + 1 < L by omega) (by omega) (v := (x1)) hx1 dL_law_534 ?_
  refine zc_r (va_runV (C := RX6) (As := [.int (x1)]) (rest := [.int (recvV σ (x1).toInt)]) ⟨hx, hb, hml, hown, hts⟩ (c_X6_received l D Y M σ hf hn wt wn sy gp i0 i1 i2 i3 fo de x1 kσ ksy kgp) (cwV 1 hts gL_law_X6_received rfl rfl rfl (by decide +kernel) ⟨Nat.le_of_ble_eq_true rfl, Nat.le_of_ble_eq_true rfl⟩) ⟨zB_blind, va_recv hK (zP_right hP) (ci := 6) (q0 := 0) rfl rfl, zp_r (zP_right hP) hK hN⟩ rfl rfl hl.1 rfl (lv_room (Nat.le_of_ble_eq_true rfl)) dL_law_535 ⟨Nat.le_of_ble_eq_true rfl, Nat.le_of_ble_eq_true rfl⟩).run ?_
  refine lv_icmp_eq (tgt := 808) hx hb dL_law_538 (by decide) (fun _ => ?_) (fun h9 => absurd (rfl) h9)
  exact kk B σ hn h r0 r1 r2 r3 r4 wt wn hf sy gp i0 i1 i2 i3 fo de (hI) H locs hP hD hS ls hl
set_option maxHeartbeats 4000000 in
set_option maxRecDepth 100000 in
theorem law_15 {p : Program} {e : Env} {s : State} {m : MethodId} {below : List Frame} {meth : Method} {c : Code} (l : Launch) {b L : Nat} {xs : Nat → Int32} (hL : L ≤ 1536) (C0 : lw_At p s m meth c b L xs) {D : va_G} {Y : Nat → ClassId} (hK : va_K D vwCl (zT Y) s) (hN : zNw s) {A M : Nat → Nat} {i : Nat} (hi : i + 3 ≤ L) (kk : zGo p l e s m below meth c b D Y A M i 808) : zGo p l e s m below meth c b D Y A M i 543 := by
  intro B σ hn h r0 r1 r2 r3 r4 wt wn hf sy gp i0 i1 i2 i3 fo de hI H locs hP hD hS ls hl
  obtain ⟨hx, hb, hr, hml, hown9, hts0, hX, hbl, hlocks, hgv⟩ := id C0
  have hown : s.vm.findClass RL = some m.cls := hown9
  have hts : ∀ w ∈ wsL_law, w.before #[Value.ref b] s = true := fun w hw => hts0 w (wsL_law_in w hw)
  have hbA : ¬ (fun q : Nat => s.heap.size ≤ q) b := Nat.not_le.mpr hbl
  obtain ⟨kσ, kr, khn, ksy, kgp, kM, kwt, kwn, kh, kf⟩ := id hI
  obtain ⟨n3, n12, d1, d3, dn, b4, b10, gl, lm, sn, wl, wnz⟩ := id kσ
  refine lv_aload_n hx hb dL_law_543 rfl (lv_at hl 2 rfl) ?_
  refine zc_r (va_runV (C := RX5) (As := []) (rest := []) ⟨hx, hb, hml, hown, hts⟩ (c_X5_sent l D Y A B σ hn h r0 r1 r2 r3 r4 wt wn  kσ kr) (cwV 0 hts gL_law_X5_sent rfl rfl rfl (by decide +kernel) ⟨Nat.le_of_ble_eq_true rfl, Nat.le_of_ble_eq_true rfl⟩) ⟨zB_blind, va_recv hK (zP_left hP) (ci := 5) (q0 := 0) rfl rfl, zp_r (zP_left hP) hK hN⟩ rfl rfl hl.1 rfl (lv_room (Nat.le_of_ble_eq_true rfl)) dL_law_544 ⟨Nat.le_of_ble_eq_true rfl, Nat.le_of_ble_eq_true rfl⟩).run ?_
  refine lv_aload_n hx hb dL_law_547 rfl (lv_at hl 3 rfl) ?_
  refine zc_r (va_runV (C := RX6) (As := []) (rest := [.int (nI (σ 8))]) ⟨hx, hb, hml, hown, hts⟩ (c_X6_sent l D Y M σ hf hn wt wn sy gp i0 i1 i2 i3 fo de  kσ ksy kgp) (cwV 0 hts gL_law_X6_sent rfl rfl rfl (by decide +kernel) ⟨Nat.le_of_ble_eq_true rfl, Nat.le_of_ble_eq_true rfl⟩) ⟨zB_blind, va_recv hK (zP_right hP) (ci := 6) (q0 := 0) rfl rfl, zp_r (zP_right hP) hK hN⟩ rfl rfl hl.1 rfl (lv_room (Nat.le_of_ble_eq_true rfl)) dL_law_548 ⟨Nat.le_of_ble_eq_true rfl, Nat.le_of_ble_eq_true rfl⟩).run ?_
  refine lv_icmp_eq (tgt := 808) hx hb dL_law_551 (by decide) (fun _ => ?_) (fun h9 => absurd (rfl) h9)
  exact kk B σ hn h r0 r1 r2 r3 r4 wt wn hf sy gp i0 i1 i2 i3 fo de (hI) H locs hP hD hS ls hl
set_option maxHeartbeats 4000000 in
set_option maxRecDepth 100000 in
theorem law_16 {p : Program} {e : Env} {s : State} {m : MethodId} {below : List Frame} {meth : Method} {c : Code} (l : Launch) {b L : Nat} {xs : Nat → Int32} (hL : L ≤ 1536) (C0 : lw_At p s m meth c b L xs) {D : va_G} {Y : Nat → ClassId} (hK : va_K D vwCl (zT Y) s) (hN : zNw s) {A M : Nat → Nat} {i : Nat} (hi : i + 3 ≤ L) (kk : zGo p l e s m below meth c b D Y A M i 808) : zGo p l e s m below meth c b D Y A M i 556 := by
  intro B σ hn h r0 r1 r2 r3 r4 wt wn hf sy gp i0 i1 i2 i3 fo de hI H locs hP hD hS ls hl
  obtain ⟨hx, hb, hr, hml, hown9, hts0, hX, hbl, hlocks, hgv⟩ := id C0
  have hown : s.vm.findClass RL = some m.cls := hown9
  have hts : ∀ w ∈ wsL_law, w.before #[Value.ref b] s = true := fun w hw => hts0 w (wsL_law_in w hw)
  have hbA : ¬ (fun q : Nat => s.heap.size ≤ q) b := Nat.not_le.mpr hbl
  obtain ⟨kσ, kr, khn, ksy, kgp, kM, kwt, kwn, kh, kf⟩ := id hI
  obtain ⟨n3, n12, d1, d3, dn, b4, b10, gl, lm, sn, wl, wnz⟩ := id kσ
  obtain ⟨x1, hx1⟩ : ∃ x, xs (i + 1) = x := ⟨_, rfl⟩
  obtain ⟨x2, hx2⟩ : ∃ x, xs (i + 2) = x := ⟨_, rfl⟩
  by_cases hbad : ¬ ((0 ≤ (x1).toInt ∧ (x1).toInt < ((σ 0 : Nat) : Int)) ∧ 0 ≤ (x2).toInt ∧ (x2).toInt ≤ 4)
  · refine lv_aload_n hx hb dL_law_556 rfl (lv_at hl 2 rfl) ?_
    refine lv_aload_n hx hb dL_law_557 rfl (lv_at hl 1 rfl) ?_
    refine lv_iload_n hx hb dL_law_558 rfl (lv_at hl 0 rfl) ?_
    refine lv_iconst (v := nI 1) hx hb dL_law_559 (by decide) ?_
    refine zv_iadd hx hb (v := nI (i + 1)) dL_law_560 (nI_add _ _) ?_
    refine zl_sld hx hb hX hbl hbA hS (show i + 1 < L by omega) (by omega) (v := (x1)) hx1 dL_law_561 ?_
    refine lv_aload_n hx hb dL_law_562 rfl (lv_at hl 1 rfl) ?_
    refine lv_iload_n hx hb dL_law_563 rfl (lv_at hl 0 rfl) ?_
    refine lv_iconst (v := nI 2) hx hb dL_law_564 (by decide) ?_
    refine zv_iadd hx hb (v := nI (i + 2)) dL_law_565 (nI_add _ _) ?_
    refine zl_sld hx hb hX hbl hbA hS (show i + 2 < L by omega) (by omega) (v := (x2)) hx2 dL_law_566 ?_
    refine zc_r (va_runV (C := RX5) (As := [.int (x1), .int (x2)]) (rest := []) ⟨hx, hb, hml, hown, hts⟩ (c_X5_block l D Y A B σ hn h r0 r1 r2 r3 r4 wt wn x1 x2 kσ kr) (cwV 2 hts gL_law_X5_block rfl rfl rfl (by decide +kernel) ⟨Nat.le_of_ble_eq_true rfl, Nat.le_of_ble_eq_true rfl⟩) ⟨zB_blind, va_recv hK (zP_left hP) (ci := 5) (q0 := 0) rfl rfl, zp_r (zP_left hP) hK hN⟩ rfl rfl hl.1 rfl (lv_room (Nat.le_of_ble_eq_true rfl)) dL_law_567 ⟨Nat.le_of_ble_eq_true rfl, Nat.le_of_ble_eq_true rfl⟩).run ?_
    refine lv_aload_n hx hb dL_law_570 rfl (lv_at hl 3 rfl) ?_
    refine lv_aload_n hx hb dL_law_571 rfl (lv_at hl 1 rfl) ?_
    refine lv_iload_n hx hb dL_law_572 rfl (lv_at hl 0 rfl) ?_
    refine lv_iconst (v := nI 1) hx hb dL_law_573 (by decide) ?_
    refine zv_iadd hx hb (v := nI (i + 1)) dL_law_574 (nI_add _ _) ?_
    refine zl_sld hx hb hX hbl hbA hS (show i + 1 < L by omega) (by omega) (v := (x1)) hx1 dL_law_575 ?_
    refine lv_aload_n hx hb dL_law_576 rfl (lv_at hl 1 rfl) ?_
    refine lv_iload_n hx hb dL_law_577 rfl (lv_at hl 0 rfl) ?_
    refine lv_iconst (v := nI 2) hx hb dL_law_578 (by decide) ?_
    refine zv_iadd hx hb (v := nI (i + 2)) dL_law_579 (nI_add _ _) ?_
    refine zl_sld hx hb hX hbl hbA hS (show i + 2 < L by omega) (by omega) (v := (x2)) hx2 dL_law_580 ?_
    refine zc_r (va_runV (C := RX6) (As := [.int (x1), .int (x2)]) (rest := [.int (blockV σ (x1).toInt (x2).toInt)]) ⟨hx, hb, hml, hown, hts⟩ (c_X6_block_bad l D Y M σ hf hn wt wn sy gp i0 i1 i2 i3 fo de x1 x2 kσ ksy kgp hbad) (cwV 2 hts gL_law_X6_block rfl rfl rfl (by decide +kernel) ⟨Nat.le_of_ble_eq_true rfl, Nat.le_of_ble_eq_true rfl⟩) ⟨zB_blind, va_recv hK (zP_right hP) (ci := 6) (q0 := 0) rfl rfl, zp_r (zP_right hP) hK hN⟩ rfl rfl hl.1 rfl (lv_room (Nat.le_of_ble_eq_true rfl)) dL_law_581 ⟨Nat.le_of_ble_eq_true rfl, Nat.le_of_ble_eq_true rfl⟩).run ?_
    refine lv_icmp_eq (tgt := 808) hx hb dL_law_584 (by decide) (fun _ => ?_) (fun h9 => absurd (blk_bad hbad) h9)
    exact kk B σ hn h r0 r1 r2 r3 r4 wt wn hf sy gp i0 i1 i2 i3 fo de (hI) H locs hP hD hS ls hl
  · obtain ⟨j1, rfl, hj1⟩ := zNat9 x1 (by omega)
    have e1 := zt_n hj1
    refine lv_aload_n hx hb dL_law_556 rfl (lv_at hl 2 rfl) ?_
    refine lv_aload_n hx hb dL_law_557 rfl (lv_at hl 1 rfl) ?_
    refine lv_iload_n hx hb dL_law_558 rfl (lv_at hl 0 rfl) ?_
    refine lv_iconst (v := nI 1) hx hb dL_law_559 (by decide) ?_
    refine zv_iadd hx hb (v := nI (i + 1)) dL_law_560 (nI_add _ _) ?_
    refine zl_sld hx hb hX hbl hbA hS (show i + 1 < L by omega) (by omega) (v := (nI j1)) hx1 dL_law_561 ?_
    refine lv_aload_n hx hb dL_law_562 rfl (lv_at hl 1 rfl) ?_
    refine lv_iload_n hx hb dL_law_563 rfl (lv_at hl 0 rfl) ?_
    refine lv_iconst (v := nI 2) hx hb dL_law_564 (by decide) ?_
    refine zv_iadd hx hb (v := nI (i + 2)) dL_law_565 (nI_add _ _) ?_
    refine zl_sld hx hb hX hbl hbA hS (show i + 2 < L by omega) (by omega) (v := (x2)) hx2 dL_law_566 ?_
    refine zc_r (va_runV (C := RX5) (As := [.int (nI j1), .int (x2)]) (rest := []) ⟨hx, hb, hml, hown, hts⟩ (c_X5_block l D Y A B σ hn h r0 r1 r2 r3 r4 wt wn ((nI j1)) x2 kσ kr) (cwV 2 hts gL_law_X5_block rfl rfl rfl (by decide +kernel) ⟨Nat.le_of_ble_eq_true rfl, Nat.le_of_ble_eq_true rfl⟩) ⟨zB_blind, va_recv hK (zP_left hP) (ci := 5) (q0 := 0) rfl rfl, zp_r (zP_left hP) hK hN⟩ rfl rfl hl.1 rfl (lv_room (Nat.le_of_ble_eq_true rfl)) dL_law_567 ⟨Nat.le_of_ble_eq_true rfl, Nat.le_of_ble_eq_true rfl⟩).run ?_
    refine lv_aload_n hx hb dL_law_570 rfl (lv_at hl 3 rfl) ?_
    refine lv_aload_n hx hb dL_law_571 rfl (lv_at hl 1 rfl) ?_
    refine lv_iload_n hx hb dL_law_572 rfl (lv_at hl 0 rfl) ?_
    refine lv_iconst (v := nI 1) hx hb dL_law_573 (by decide) ?_
    refine zv_iadd hx hb (v := nI (i + 1)) dL_law_574 (nI_add _ _) ?_
    refine zl_sld hx hb hX hbl hbA hS (show i + 1 < L by omega) (by omega) (v := (nI j1)) hx1 dL_law_575 ?_
    refine lv_aload_n hx hb dL_law_576 rfl (lv_at hl 1 rfl) ?_
    refine lv_iload_n hx hb dL_law_577 rfl (lv_at hl 0 rfl) ?_
    refine lv_iconst (v := nI 2) hx hb dL_law_578 (by decide) ?_
    refine zv_iadd hx hb (v := nI (i + 2)) dL_law_579 (nI_add _ _) ?_
    refine zl_sld hx hb hX hbl hbA hS (show i + 2 < L by omega) (by omega) (v := (x2)) hx2 dL_law_580 ?_
    refine zc_wr (va_runV (C := RX6) (As := [.int (nI j1), .int (x2)]) (rest := [.int (blockV σ ((nI j1)).toInt (x2).toInt)]) ⟨hx, hb, hml, hown, hts⟩ (c_X6_block l D Y M σ hf hn wt wn sy gp i0 i1 i2 i3 fo de j1 x2 kσ ksy kgp (by omega) (by omega) (by omega)) (cwV 2 hts gL_law_X6_block rfl rfl rfl (by decide +kernel) ⟨Nat.le_of_ble_eq_true rfl, Nat.le_of_ble_eq_true rfl⟩) ⟨zBw_blind, va_recv hK (zP_right hP) (ci := 6) (q0 := 0) rfl rfl, zp_w (zP_right hP) (zD_right hD) hK hN⟩ rfl rfl hl.1 rfl (lv_room (Nat.le_of_ble_eq_true rfl)) dL_law_581 ⟨Nat.le_of_ble_eq_true rfl, Nat.le_of_ble_eq_true rfl⟩).run hP hD hS (MX_dd ((zD_self (zD_right hD)))) (fun H locs hP hD hS => ?_)
    refine lv_icmp_eq (tgt := 808) hx hb dL_law_584 (by decide) (fun _ => ?_) (fun h9 => absurd (rfl) h9)
    exact kk B σ hn h r0 r1 r2 r3 r4 wt wn hf sy gp (ag0 σ i0) (ag1 σ i1) (ag2 σ i2) (insI (trS σ) i3 (σ 0)) fo de (hI) H locs hP hD hS ls hl
set_option maxHeartbeats 4000000 in
set_option maxRecDepth 100000 in
theorem law_17 {p : Program} {e : Env} {s : State} {m : MethodId} {below : List Frame} {meth : Method} {c : Code} (l : Launch) {b L : Nat} {xs : Nat → Int32} (hL : L ≤ 1536) (C0 : lw_At p s m meth c b L xs) {D : va_G} {Y : Nat → ClassId} (hK : va_K D vwCl (zT Y) s) (hN : zNw s) {A M : Nat → Nat} {i : Nat} (hi : i + 3 ≤ L) (kk : zGo p l e s m below meth c b D Y A M i 808) : zGo p l e s m below meth c b D Y A M i 589 := by
  intro B σ hn h r0 r1 r2 r3 r4 wt wn hf sy gp i0 i1 i2 i3 fo de hI H locs hP hD hS ls hl
  obtain ⟨hx, hb, hr, hml, hown9, hts0, hX, hbl, hlocks, hgv⟩ := id C0
  have hown : s.vm.findClass RL = some m.cls := hown9
  have hts : ∀ w ∈ wsL_law, w.before #[Value.ref b] s = true := fun w hw => hts0 w (wsL_law_in w hw)
  have hbA : ¬ (fun q : Nat => s.heap.size ≤ q) b := Nat.not_le.mpr hbl
  obtain ⟨kσ, kr, khn, ksy, kgp, kM, kwt, kwn, kh, kf⟩ := id hI
  obtain ⟨n3, n12, d1, d3, dn, b4, b10, gl, lm, sn, wl, wnz⟩ := id kσ
  obtain ⟨x1, hx1⟩ : ∃ x, xs (i + 1) = x := ⟨_, rfl⟩
  by_cases hbad : ¬ (0 ≤ (x1).toInt ∧ (x1).toInt < ((σ 0 : Nat) : Int))
  · refine lv_aload_n hx hb dL_law_589 rfl (lv_at hl 2 rfl) ?_
    refine lv_aload_n hx hb dL_law_590 rfl (lv_at hl 1 rfl) ?_
    refine lv_iload_n hx hb dL_law_591 rfl (lv_at hl 0 rfl) ?_
    refine lv_iconst (v := nI 1) hx hb dL_law_592 (by decide) ?_
    refine zv_iadd hx hb (v := nI (i + 1)) dL_law_593 (nI_add _ _) ?_
    refine zl_sld hx hb hX hbl hbA hS (show i + 1 < L by omega) (by omega) (v := (x1)) hx1 dL_law_594 ?_
    refine zc_r (va_runV (C := RX5) (As := [.int (x1)]) (rest := []) ⟨hx, hb, hml, hown, hts⟩ (c_X5_blockAt l D Y A B σ hn h r0 r1 r2 r3 r4 wt wn x1 kσ kr) (cwV 1 hts gL_law_X5_blockAt rfl rfl rfl (by decide +kernel) ⟨Nat.le_of_ble_eq_true rfl, Nat.le_of_ble_eq_true rfl⟩) ⟨zB_blind, va_recv hK (zP_left hP) (ci := 5) (q0 := 0) rfl rfl, zp_r (zP_left hP) hK hN⟩ rfl rfl hl.1 rfl (lv_room (Nat.le_of_ble_eq_true rfl)) dL_law_595 ⟨Nat.le_of_ble_eq_true rfl, Nat.le_of_ble_eq_true rfl⟩).run ?_
    refine lv_aload_n hx hb dL_law_598 rfl (lv_at hl 3 rfl) ?_
    refine lv_aload_n hx hb dL_law_599 rfl (lv_at hl 1 rfl) ?_
    refine lv_iload_n hx hb dL_law_600 rfl (lv_at hl 0 rfl) ?_
    refine lv_iconst (v := nI 1) hx hb dL_law_601 (by decide) ?_
    refine zv_iadd hx hb (v := nI (i + 1)) dL_law_602 (nI_add _ _) ?_
    refine zl_sld hx hb hX hbl hbA hS (show i + 1 < L by omega) (by omega) (v := (x1)) hx1 dL_law_603 ?_
    refine zc_r (va_runV (C := RX6) (As := [.int (x1)]) (rest := [.int (blockAtV σ (x1).toInt)]) ⟨hx, hb, hml, hown, hts⟩ (c_X6_blockAt_bad l D Y M σ hf hn wt wn sy gp i0 i1 i2 i3 fo de x1 kσ ksy kgp hbad) (cwV 1 hts gL_law_X6_blockAt rfl rfl rfl (by decide +kernel) ⟨Nat.le_of_ble_eq_true rfl, Nat.le_of_ble_eq_true rfl⟩) ⟨zB_blind, va_recv hK (zP_right hP) (ci := 6) (q0 := 0) rfl rfl, zp_r (zP_right hP) hK hN⟩ rfl rfl hl.1 rfl (lv_room (Nat.le_of_ble_eq_true rfl)) dL_law_604 ⟨Nat.le_of_ble_eq_true rfl, Nat.le_of_ble_eq_true rfl⟩).run ?_
    refine lv_icmp_eq (tgt := 808) hx hb dL_law_607 (by decide) (fun _ => ?_) (fun h9 => absurd (if_neg hbad) h9)
    exact kk B σ hn h r0 r1 r2 r3 r4 wt wn hf sy gp i0 i1 i2 i3 fo de (hI) H locs hP hD hS ls hl
  · obtain ⟨j1, rfl, hj1⟩ := zNat9 x1 (by omega)
    have e1 := zt_n hj1
    have hb9 := Decidable.not_not.mp hbad
    refine lv_aload_n hx hb dL_law_589 rfl (lv_at hl 2 rfl) ?_
    refine lv_aload_n hx hb dL_law_590 rfl (lv_at hl 1 rfl) ?_
    refine lv_iload_n hx hb dL_law_591 rfl (lv_at hl 0 rfl) ?_
    refine lv_iconst (v := nI 1) hx hb dL_law_592 (by decide) ?_
    refine zv_iadd hx hb (v := nI (i + 1)) dL_law_593 (nI_add _ _) ?_
    refine zl_sld hx hb hX hbl hbA hS (show i + 1 < L by omega) (by omega) (v := (nI j1)) hx1 dL_law_594 ?_
    refine zc_r (va_runV (C := RX5) (As := [.int (nI j1)]) (rest := []) ⟨hx, hb, hml, hown, hts⟩ (c_X5_blockAt l D Y A B σ hn h r0 r1 r2 r3 r4 wt wn ((nI j1)) kσ kr) (cwV 1 hts gL_law_X5_blockAt rfl rfl rfl (by decide +kernel) ⟨Nat.le_of_ble_eq_true rfl, Nat.le_of_ble_eq_true rfl⟩) ⟨zB_blind, va_recv hK (zP_left hP) (ci := 5) (q0 := 0) rfl rfl, zp_r (zP_left hP) hK hN⟩ rfl rfl hl.1 rfl (lv_room (Nat.le_of_ble_eq_true rfl)) dL_law_595 ⟨Nat.le_of_ble_eq_true rfl, Nat.le_of_ble_eq_true rfl⟩).run ?_
    refine lv_aload_n hx hb dL_law_598 rfl (lv_at hl 3 rfl) ?_
    refine lv_aload_n hx hb dL_law_599 rfl (lv_at hl 1 rfl) ?_
    refine lv_iload_n hx hb dL_law_600 rfl (lv_at hl 0 rfl) ?_
    refine lv_iconst (v := nI 1) hx hb dL_law_601 (by decide) ?_
    refine zv_iadd hx hb (v := nI (i + 1)) dL_law_602 (nI_add _ _) ?_
    refine zl_sld hx hb hX hbl hbA hS (show i + 1 < L by omega) (by omega) (v := (nI j1)) hx1 dL_law_603 ?_
    refine zc_wr (va_runV (C := RX6) (As := [.int (nI j1)]) (rest := [.int (blockAtV σ ((nI j1)).toInt)]) ⟨hx, hb, hml, hown, hts⟩ (c_X6_blockAt l D Y M σ hf hn wt wn sy gp i0 i1 i2 i3 fo de j1 kσ ksy kgp (by omega)) (cwV 1 hts gL_law_X6_blockAt rfl rfl rfl (by decide +kernel) ⟨Nat.le_of_ble_eq_true rfl, Nat.le_of_ble_eq_true rfl⟩) ⟨zBw_blind, va_recv hK (zP_right hP) (ci := 6) (q0 := 0) rfl rfl, zp_w (zP_right hP) (zD_right hD) hK hN⟩ rfl rfl hl.1 rfl (lv_room (Nat.le_of_ble_eq_true rfl)) dL_law_604 ⟨Nat.le_of_ble_eq_true rfl, Nat.le_of_ble_eq_true rfl⟩).run hP hD hS (MX_dd ((zD_self (zD_right hD)))) (fun H locs hP hD hS => ?_)
    refine lv_icmp_eq (tgt := 808) hx hb dL_law_607 (by decide) (fun _ => ?_) (fun h9 => absurd (by unfold blockAtV; rw [if_pos hb9, zToI (by omega)]) h9)
    exact kk B σ hn h r0 r1 r2 r3 r4 wt wn hf sy gp (ag0 σ i0) (ag1 σ i1) (ag2 σ i2) (insI (trS σ) i3 (σ 0)) fo de (hI) H locs hP hD hS ls hl
set_option maxHeartbeats 4000000 in
set_option maxRecDepth 100000 in
theorem law_18 {p : Program} {e : Env} {s : State} {m : MethodId} {below : List Frame} {meth : Method} {c : Code} (l : Launch) {b L : Nat} {xs : Nat → Int32} (hL : L ≤ 1536) (C0 : lw_At p s m meth c b L xs) {D : va_G} {Y : Nat → ClassId} (hK : va_K D vwCl (zT Y) s) (hN : zNw s) {A M : Nat → Nat} {i : Nat} (hi : i + 3 ≤ L) (kk : zGo p l e s m below meth c b D Y A M i 808) : zGo p l e s m below meth c b D Y A M i 612 := by
  intro B σ hn h r0 r1 r2 r3 r4 wt wn hf sy gp i0 i1 i2 i3 fo de hI H locs hP hD hS ls hl
  obtain ⟨hx, hb, hr, hml, hown9, hts0, hX, hbl, hlocks, hgv⟩ := id C0
  have hown : s.vm.findClass RL = some m.cls := hown9
  have hts : ∀ w ∈ wsL_law, w.before #[Value.ref b] s = true := fun w hw => hts0 w (wsL_law_in w hw)
  have hbA : ¬ (fun q : Nat => s.heap.size ≤ q) b := Nat.not_le.mpr hbl
  obtain ⟨kσ, kr, khn, ksy, kgp, kM, kwt, kwn, kh, kf⟩ := id hI
  obtain ⟨n3, n12, d1, d3, dn, b4, b10, gl, lm, sn, wl, wnz⟩ := id kσ
  obtain ⟨x1, hx1⟩ : ∃ x, xs (i + 1) = x := ⟨_, rfl⟩
  by_cases hbad : ¬ (0 ≤ (x1).toInt ∧ (x1).toInt < ((σ 0 : Nat) : Int))
  · refine lv_aload_n hx hb dL_law_612 rfl (lv_at hl 2 rfl) ?_
    refine lv_aload_n hx hb dL_law_613 rfl (lv_at hl 1 rfl) ?_
    refine lv_iload_n hx hb dL_law_614 rfl (lv_at hl 0 rfl) ?_
    refine lv_iconst (v := nI 1) hx hb dL_law_615 (by decide) ?_
    refine zv_iadd hx hb (v := nI (i + 1)) dL_law_616 (nI_add _ _) ?_
    refine zl_sld hx hb hX hbl hbA hS (show i + 1 < L by omega) (by omega) (v := (x1)) hx1 dL_law_617 ?_
    refine zc_r (va_runV (C := RX5) (As := [.int (x1)]) (rest := []) ⟨hx, hb, hml, hown, hts⟩ (c_X5_strength l D Y A B σ hn h r0 r1 r2 r3 r4 wt wn x1 kσ kr) (cwV 1 hts gL_law_X5_strength rfl rfl rfl (by decide +kernel) ⟨Nat.le_of_ble_eq_true rfl, Nat.le_of_ble_eq_true rfl⟩) ⟨zB_blind, va_recv hK (zP_left hP) (ci := 5) (q0 := 0) rfl rfl, zp_r (zP_left hP) hK hN⟩ rfl rfl hl.1 rfl (lv_room (Nat.le_of_ble_eq_true rfl)) dL_law_618 ⟨Nat.le_of_ble_eq_true rfl, Nat.le_of_ble_eq_true rfl⟩).run ?_
    refine lv_aload_n hx hb dL_law_621 rfl (lv_at hl 3 rfl) ?_
    refine lv_aload_n hx hb dL_law_622 rfl (lv_at hl 1 rfl) ?_
    refine lv_iload_n hx hb dL_law_623 rfl (lv_at hl 0 rfl) ?_
    refine lv_iconst (v := nI 1) hx hb dL_law_624 (by decide) ?_
    refine zv_iadd hx hb (v := nI (i + 1)) dL_law_625 (nI_add _ _) ?_
    refine zl_sld hx hb hX hbl hbA hS (show i + 1 < L by omega) (by omega) (v := (x1)) hx1 dL_law_626 ?_
    refine zc_r (va_runV (C := RX6) (As := [.int (x1)]) (rest := [.int (strV σ (x1).toInt)]) ⟨hx, hb, hml, hown, hts⟩ (c_X6_strength_bad l D Y M σ hf hn wt wn sy gp i0 i1 i2 i3 fo de x1 kσ ksy kgp hbad) (cwV 1 hts gL_law_X6_strength rfl rfl rfl (by decide +kernel) ⟨Nat.le_of_ble_eq_true rfl, Nat.le_of_ble_eq_true rfl⟩) ⟨zB_blind, va_recv hK (zP_right hP) (ci := 6) (q0 := 0) rfl rfl, zp_r (zP_right hP) hK hN⟩ rfl rfl hl.1 rfl (lv_room (Nat.le_of_ble_eq_true rfl)) dL_law_627 ⟨Nat.le_of_ble_eq_true rfl, Nat.le_of_ble_eq_true rfl⟩).run ?_
    refine lv_icmp_eq (tgt := 808) hx hb dL_law_630 (by decide) (fun _ => ?_) (fun h9 => absurd (if_neg hbad) h9)
    exact kk B σ hn h r0 r1 r2 r3 r4 wt wn hf sy gp i0 i1 i2 i3 fo de (hI) H locs hP hD hS ls hl
  · obtain ⟨j1, rfl, hj1⟩ := zNat9 x1 (by omega)
    have e1 := zt_n hj1
    have hb9 := Decidable.not_not.mp hbad
    have hz := zL_01 (σ 7) j1
    by_cases hls : zL (σ 7) j1 = 1
    · refine lv_aload_n hx hb dL_law_612 rfl (lv_at hl 2 rfl) ?_
      refine lv_aload_n hx hb dL_law_613 rfl (lv_at hl 1 rfl) ?_
      refine lv_iload_n hx hb dL_law_614 rfl (lv_at hl 0 rfl) ?_
      refine lv_iconst (v := nI 1) hx hb dL_law_615 (by decide) ?_
      refine zv_iadd hx hb (v := nI (i + 1)) dL_law_616 (nI_add _ _) ?_
      refine zl_sld hx hb hX hbl hbA hS (show i + 1 < L by omega) (by omega) (v := (nI j1)) hx1 dL_law_617 ?_
      refine zc_r (va_runV (C := RX5) (As := [.int (nI j1)]) (rest := []) ⟨hx, hb, hml, hown, hts⟩ (c_X5_strength l D Y A B σ hn h r0 r1 r2 r3 r4 wt wn ((nI j1)) kσ kr) (cwV 1 hts gL_law_X5_strength rfl rfl rfl (by decide +kernel) ⟨Nat.le_of_ble_eq_true rfl, Nat.le_of_ble_eq_true rfl⟩) ⟨zB_blind, va_recv hK (zP_left hP) (ci := 5) (q0 := 0) rfl rfl, zp_r (zP_left hP) hK hN⟩ rfl rfl hl.1 rfl (lv_room (Nat.le_of_ble_eq_true rfl)) dL_law_618 ⟨Nat.le_of_ble_eq_true rfl, Nat.le_of_ble_eq_true rfl⟩).run ?_
      refine lv_aload_n hx hb dL_law_621 rfl (lv_at hl 3 rfl) ?_
      refine lv_aload_n hx hb dL_law_622 rfl (lv_at hl 1 rfl) ?_
      refine lv_iload_n hx hb dL_law_623 rfl (lv_at hl 0 rfl) ?_
      refine lv_iconst (v := nI 1) hx hb dL_law_624 (by decide) ?_
      refine zv_iadd hx hb (v := nI (i + 1)) dL_law_625 (nI_add _ _) ?_
      refine zl_sld hx hb hX hbl hbA hS (show i + 1 < L by omega) (by omega) (v := (nI j1)) hx1 dL_law_626 ?_
      refine zc_r (va_runV (C := RX6) (As := [.int (nI j1)]) (rest := [.int (strV σ ((nI j1)).toInt)]) ⟨hx, hb, hml, hown, hts⟩ (c_X6_strength_lost l D Y M σ hf hn wt wn sy gp i0 i1 i2 i3 fo de j1 kσ ksy kgp (by omega) (by omega)) (cwV 1 hts gL_law_X6_strength rfl rfl rfl (by decide +kernel) ⟨Nat.le_of_ble_eq_true rfl, Nat.le_of_ble_eq_true rfl⟩) ⟨zB_blind, va_recv hK (zP_right hP) (ci := 6) (q0 := 0) rfl rfl, zp_r (zP_right hP) hK hN⟩ rfl rfl hl.1 rfl (lv_room (Nat.le_of_ble_eq_true rfl)) dL_law_627 ⟨Nat.le_of_ble_eq_true rfl, Nat.le_of_ble_eq_true rfl⟩).run ?_
      refine lv_icmp_eq (tgt := 808) hx hb dL_law_630 (by decide) (fun _ => ?_) (fun h9 => absurd (by unfold strV; rw [if_pos hb9, zToI (by omega), if_pos hls]) h9)
      exact kk B σ hn h r0 r1 r2 r3 r4 wt wn hf sy gp i0 i1 i2 i3 fo de (hI) H locs hP hD hS ls hl
    · refine lv_aload_n hx hb dL_law_612 rfl (lv_at hl 2 rfl) ?_
      refine lv_aload_n hx hb dL_law_613 rfl (lv_at hl 1 rfl) ?_
      refine lv_iload_n hx hb dL_law_614 rfl (lv_at hl 0 rfl) ?_
      refine lv_iconst (v := nI 1) hx hb dL_law_615 (by decide) ?_
      refine zv_iadd hx hb (v := nI (i + 1)) dL_law_616 (nI_add _ _) ?_
      refine zl_sld hx hb hX hbl hbA hS (show i + 1 < L by omega) (by omega) (v := (nI j1)) hx1 dL_law_617 ?_
      refine zc_r (va_runV (C := RX5) (As := [.int (nI j1)]) (rest := []) ⟨hx, hb, hml, hown, hts⟩ (c_X5_strength l D Y A B σ hn h r0 r1 r2 r3 r4 wt wn ((nI j1)) kσ kr) (cwV 1 hts gL_law_X5_strength rfl rfl rfl (by decide +kernel) ⟨Nat.le_of_ble_eq_true rfl, Nat.le_of_ble_eq_true rfl⟩) ⟨zB_blind, va_recv hK (zP_left hP) (ci := 5) (q0 := 0) rfl rfl, zp_r (zP_left hP) hK hN⟩ rfl rfl hl.1 rfl (lv_room (Nat.le_of_ble_eq_true rfl)) dL_law_618 ⟨Nat.le_of_ble_eq_true rfl, Nat.le_of_ble_eq_true rfl⟩).run ?_
      refine lv_aload_n hx hb dL_law_621 rfl (lv_at hl 3 rfl) ?_
      refine lv_aload_n hx hb dL_law_622 rfl (lv_at hl 1 rfl) ?_
      refine lv_iload_n hx hb dL_law_623 rfl (lv_at hl 0 rfl) ?_
      refine lv_iconst (v := nI 1) hx hb dL_law_624 (by decide) ?_
      refine zv_iadd hx hb (v := nI (i + 1)) dL_law_625 (nI_add _ _) ?_
      refine zl_sld hx hb hX hbl hbA hS (show i + 1 < L by omega) (by omega) (v := (nI j1)) hx1 dL_law_626 ?_
      refine zc_r (va_runV (C := RX6) (As := [.int (nI j1)]) (rest := [.int (strV σ ((nI j1)).toInt)]) ⟨hx, hb, hml, hown, hts⟩ (c_X6_strength l D Y M σ hf hn wt wn sy gp i0 i1 i2 i3 fo de j1 kσ ksy kgp (by omega) (by omega)) (cwV 1 hts gL_law_X6_strength rfl rfl rfl (by decide +kernel) ⟨Nat.le_of_ble_eq_true rfl, Nat.le_of_ble_eq_true rfl⟩) ⟨zB_blind, va_recv hK (zP_right hP) (ci := 6) (q0 := 0) rfl rfl, zp_r (zP_right hP) hK hN⟩ rfl rfl hl.1 rfl (lv_room (Nat.le_of_ble_eq_true rfl)) dL_law_627 ⟨Nat.le_of_ble_eq_true rfl, Nat.le_of_ble_eq_true rfl⟩).run ?_
      refine lv_icmp_eq (tgt := 808) hx hb dL_law_630 (by decide) (fun _ => ?_) (fun h9 => absurd (by unfold strV; rw [if_pos hb9, zToI (by omega), if_neg hls]) h9)
      exact kk B σ hn h r0 r1 r2 r3 r4 wt wn hf sy gp i0 i1 i2 i3 fo de (hI) H locs hP hD hS ls hl
set_option maxHeartbeats 4000000 in
set_option maxRecDepth 100000 in
theorem law_19 {p : Program} {e : Env} {s : State} {m : MethodId} {below : List Frame} {meth : Method} {c : Code} (l : Launch) {b L : Nat} {xs : Nat → Int32} (hL : L ≤ 1536) (C0 : lw_At p s m meth c b L xs) {D : va_G} {Y : Nat → ClassId} (hK : va_K D vwCl (zT Y) s) (hN : zNw s) {A M : Nat → Nat} {i : Nat} (hi : i + 3 ≤ L) (kk : zGo p l e s m below meth c b D Y A M i 808) : zGo p l e s m below meth c b D Y A M i 635 := by
  intro B σ hn h r0 r1 r2 r3 r4 wt wn hf sy gp i0 i1 i2 i3 fo de hI H locs hP hD hS ls hl
  obtain ⟨hx, hb, hr, hml, hown9, hts0, hX, hbl, hlocks, hgv⟩ := id C0
  have hown : s.vm.findClass RL = some m.cls := hown9
  have hts : ∀ w ∈ wsL_law, w.before #[Value.ref b] s = true := fun w hw => hts0 w (wsL_law_in w hw)
  have hbA : ¬ (fun q : Nat => s.heap.size ≤ q) b := Nat.not_le.mpr hbl
  obtain ⟨kσ, kr, khn, ksy, kgp, kM, kwt, kwn, kh, kf⟩ := id hI
  obtain ⟨n3, n12, d1, d3, dn, b4, b10, gl, lm, sn, wl, wnz⟩ := id kσ
  obtain ⟨x1, hx1⟩ : ∃ x, xs (i + 1) = x := ⟨_, rfl⟩
  by_cases hbad : ¬ (0 ≤ (x1).toInt ∧ (x1).toInt < ((σ 0 - σ 1 + 1 : Nat) : Int))
  · refine lv_aload_n hx hb dL_law_635 rfl (lv_at hl 2 rfl) ?_
    refine lv_aload_n hx hb dL_law_636 rfl (lv_at hl 1 rfl) ?_
    refine lv_iload_n hx hb dL_law_637 rfl (lv_at hl 0 rfl) ?_
    refine lv_iconst (v := nI 1) hx hb dL_law_638 (by decide) ?_
    refine zv_iadd hx hb (v := nI (i + 1)) dL_law_639 (nI_add _ _) ?_
    refine zl_sld hx hb hX hbl hbA hS (show i + 1 < L by omega) (by omega) (v := (x1)) hx1 dL_law_640 ?_
    refine zc_r (va_runV (C := RX5) (As := [.int (x1)]) (rest := []) ⟨hx, hb, hml, hown, hts⟩ (c_X5_trial l D Y A B σ hn h r0 r1 r2 r3 r4 wt wn x1 kσ kr) (cwV 1 hts gL_law_X5_trial rfl rfl rfl (by decide +kernel) ⟨Nat.le_of_ble_eq_true rfl, Nat.le_of_ble_eq_true rfl⟩) ⟨zB_blind, va_recv hK (zP_left hP) (ci := 5) (q0 := 0) rfl rfl, zp_r (zP_left hP) hK hN⟩ rfl rfl hl.1 rfl (lv_room (Nat.le_of_ble_eq_true rfl)) dL_law_641 ⟨Nat.le_of_ble_eq_true rfl, Nat.le_of_ble_eq_true rfl⟩).run ?_
    refine lv_aload_n hx hb dL_law_644 rfl (lv_at hl 3 rfl) ?_
    refine lv_aload_n hx hb dL_law_645 rfl (lv_at hl 1 rfl) ?_
    refine lv_iload_n hx hb dL_law_646 rfl (lv_at hl 0 rfl) ?_
    refine lv_iconst (v := nI 1) hx hb dL_law_647 (by decide) ?_
    refine zv_iadd hx hb (v := nI (i + 1)) dL_law_648 (nI_add _ _) ?_
    refine zl_sld hx hb hX hbl hbA hS (show i + 1 < L by omega) (by omega) (v := (x1)) hx1 dL_law_649 ?_
    refine zc_r (va_runV (C := RX6) (As := [.int (x1)]) (rest := [.int (trialV σ (x1).toInt)]) ⟨hx, hb, hml, hown, hts⟩ (c_X6_trial_bad l D Y M σ hf hn wt wn sy gp i0 i1 i2 i3 fo de x1 kσ ksy kgp hbad) (cwV 1 hts gL_law_X6_trial rfl rfl rfl (by decide +kernel) ⟨Nat.le_of_ble_eq_true rfl, Nat.le_of_ble_eq_true rfl⟩) ⟨zB_blind, va_recv hK (zP_right hP) (ci := 6) (q0 := 0) rfl rfl, zp_r (zP_right hP) hK hN⟩ rfl rfl hl.1 rfl (lv_room (Nat.le_of_ble_eq_true rfl)) dL_law_650 ⟨Nat.le_of_ble_eq_true rfl, Nat.le_of_ble_eq_true rfl⟩).run ?_
    refine lv_icmp_eq (tgt := 808) hx hb dL_law_653 (by decide) (fun _ => ?_) (fun h9 => absurd (if_neg hbad) h9)
    exact kk B σ hn h r0 r1 r2 r3 r4 wt wn hf sy gp i0 i1 i2 i3 fo de (hI) H locs hP hD hS ls hl
  · obtain ⟨j1, rfl, hj1⟩ := zNat9 x1 (by omega)
    have e1 := zt_n hj1
    have hb9 := Decidable.not_not.mp hbad
    refine lv_aload_n hx hb dL_law_635 rfl (lv_at hl 2 rfl) ?_
    refine lv_aload_n hx hb dL_law_636 rfl (lv_at hl 1 rfl) ?_
    refine lv_iload_n hx hb dL_law_637 rfl (lv_at hl 0 rfl) ?_
    refine lv_iconst (v := nI 1) hx hb dL_law_638 (by decide) ?_
    refine zv_iadd hx hb (v := nI (i + 1)) dL_law_639 (nI_add _ _) ?_
    refine zl_sld hx hb hX hbl hbA hS (show i + 1 < L by omega) (by omega) (v := (nI j1)) hx1 dL_law_640 ?_
    refine zc_r (va_runV (C := RX5) (As := [.int (nI j1)]) (rest := []) ⟨hx, hb, hml, hown, hts⟩ (c_X5_trial l D Y A B σ hn h r0 r1 r2 r3 r4 wt wn ((nI j1)) kσ kr) (cwV 1 hts gL_law_X5_trial rfl rfl rfl (by decide +kernel) ⟨Nat.le_of_ble_eq_true rfl, Nat.le_of_ble_eq_true rfl⟩) ⟨zB_blind, va_recv hK (zP_left hP) (ci := 5) (q0 := 0) rfl rfl, zp_r (zP_left hP) hK hN⟩ rfl rfl hl.1 rfl (lv_room (Nat.le_of_ble_eq_true rfl)) dL_law_641 ⟨Nat.le_of_ble_eq_true rfl, Nat.le_of_ble_eq_true rfl⟩).run ?_
    refine lv_aload_n hx hb dL_law_644 rfl (lv_at hl 3 rfl) ?_
    refine lv_aload_n hx hb dL_law_645 rfl (lv_at hl 1 rfl) ?_
    refine lv_iload_n hx hb dL_law_646 rfl (lv_at hl 0 rfl) ?_
    refine lv_iconst (v := nI 1) hx hb dL_law_647 (by decide) ?_
    refine zv_iadd hx hb (v := nI (i + 1)) dL_law_648 (nI_add _ _) ?_
    refine zl_sld hx hb hX hbl hbA hS (show i + 1 < L by omega) (by omega) (v := (nI j1)) hx1 dL_law_649 ?_
    refine zc_wr (va_runV (C := RX6) (As := [.int (nI j1)]) (rest := [.int (trialV σ ((nI j1)).toInt)]) ⟨hx, hb, hml, hown, hts⟩ (c_X6_trial l D Y M σ hf hn wt wn sy gp i0 i1 i2 i3 fo de j1 kσ ksy kgp (by omega)) (cwV 1 hts gL_law_X6_trial rfl rfl rfl (by decide +kernel) ⟨Nat.le_of_ble_eq_true rfl, Nat.le_of_ble_eq_true rfl⟩) ⟨zBw_blind, va_recv hK (zP_right hP) (ci := 6) (q0 := 0) rfl rfl, zp_w (zP_right hP) (zD_right hD) hK hN⟩ rfl rfl hl.1 rfl (lv_room (Nat.le_of_ble_eq_true rfl)) dL_law_650 ⟨Nat.le_of_ble_eq_true rfl, Nat.le_of_ble_eq_true rfl⟩).run hP hD hS (MX_dd ((zD_self (zD_right hD)))) (fun H locs hP hD hS => ?_)
    refine lv_icmp_eq (tgt := 808) hx hb dL_law_653 (by decide) (fun _ => ?_) (fun h9 => absurd (by unfold trialV; rw [if_pos hb9, zToI (by omega)]) h9)
    exact kk B σ hn h r0 r1 r2 r3 r4 wt wn hf sy gp (ag0 σ i0) (ag1 σ i1) (ag2 σ i2) (insI (trS σ) i3 (σ 0)) fo de (hI) H locs hP hD hS ls hl
