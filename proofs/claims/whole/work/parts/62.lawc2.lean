set_option maxHeartbeats 4000000 in
set_option maxRecDepth 100000 in
theorem law_5 {p : Program} {e : Env} {s : State} {m : MethodId} {below : List Frame} {meth : Method} {c : Code} (l : Launch) {b L : Nat} {xs : Nat → Int32} (hL : L ≤ 1536) (C0 : lw_At p s m meth c b L xs) {D : va_G} {Y : Nat → ClassId} (hK : va_K D vwCl (zT Y) s) (hN : zNw s) {A M : Nat → Nat} {i : Nat} (hi : i + 3 ≤ L) (kk : zGo p l e s m below meth c b D Y A M i 808) : zGo p l e s m below meth c b D Y A M i 273 := by
  intro B σ hn h r0 r1 r2 r3 r4 wt wn hf sy gp i0 i1 i2 i3 fo de hI H locs hP hD hS ls hl
  obtain ⟨hx, hb, hr, hml, hown9, hts0, hX, hbl, hlocks, hgv⟩ := id C0
  have hown : s.vm.findClass RL = some m.cls := hown9
  have hts : ∀ w ∈ wsL_law, w.before #[Value.ref b] s = true := fun w hw => hts0 w (wsL_law_in w hw)
  have hbA : ¬ (fun q : Nat => s.heap.size ≤ q) b := Nat.not_le.mpr hbl
  obtain ⟨kσ, kr, khn, ksy, kgp, kM, kwt, kwn, kh, kf⟩ := id hI
  obtain ⟨n3, n12, d1, d3, dn, b4, b10, gl, lm, sn, wl, wnz⟩ := id kσ
  obtain ⟨x1, hx1⟩ : ∃ x, xs (i + 1) = x := ⟨_, rfl⟩
  refine lv_aload_n hx hb dL_law_273 rfl (lv_at hl 2 rfl) ?_
  refine lv_aload_n hx hb dL_law_274 rfl (lv_at hl 1 rfl) ?_
  refine lv_iload_n hx hb dL_law_275 rfl (lv_at hl 0 rfl) ?_
  refine lv_iconst (v := nI 1) hx hb dL_law_276 (by decide) ?_
  refine zv_iadd hx hb (v := nI (i + 1)) dL_law_277 (nI_add _ _) ?_
  refine zl_sld hx hb hX hbl hbA hS (show i + 1 < L by omega) (by omega) (v := (x1)) hx1 dL_law_278 ?_
  refine zc_r (va_runV (C := RX5) (As := [.int (x1)]) (rest := []) ⟨hx, hb, hml, hown, hts⟩ (c_X5_count l D Y A B σ hn h r0 r1 r2 r3 r4 wt wn x1 kσ kr) (cwV 1 hts gL_law_X5_count rfl rfl rfl (by decide +kernel) ⟨Nat.le_of_ble_eq_true rfl, Nat.le_of_ble_eq_true rfl⟩) ⟨zB_blind, va_recv hK (zP_left hP) (ci := 5) (q0 := 0) rfl rfl, zp_r (zP_left hP) hK hN⟩ rfl rfl hl.1 rfl (lv_room (Nat.le_of_ble_eq_true rfl)) dL_law_279 ⟨Nat.le_of_ble_eq_true rfl, Nat.le_of_ble_eq_true rfl⟩).run ?_
  refine lv_aload_n hx hb dL_law_282 rfl (lv_at hl 3 rfl) ?_
  refine lv_aload_n hx hb dL_law_283 rfl (lv_at hl 1 rfl) ?_
  refine lv_iload_n hx hb dL_law_284 rfl (lv_at hl 0 rfl) ?_
  refine lv_iconst (v := nI 1) hx hb dL_law_285 (by decide) ?_
  refine zv_iadd hx hb (v := nI (i + 1)) dL_law_286 (nI_add _ _) ?_
  refine zl_sld hx hb hX hbl hbA hS (show i + 1 < L by omega) (by omega) (v := (x1)) hx1 dL_law_287 ?_
  refine zc_r (va_runV (C := RX6) (As := [.int (x1)]) (rest := [.int (countV σ wn hn (x1).toInt)]) ⟨hx, hb, hml, hown, hts⟩ (c_X6_count l D Y M σ hf hn wt wn sy gp i0 i1 i2 i3 fo de x1 kσ ksy kgp kM) (cwV 1 hts gL_law_X6_count rfl rfl rfl (by decide +kernel) ⟨Nat.le_of_ble_eq_true rfl, Nat.le_of_ble_eq_true rfl⟩) ⟨zB_blind, va_recv hK (zP_right hP) (ci := 6) (q0 := 0) rfl rfl, zp_r (zP_right hP) hK hN⟩ rfl rfl hl.1 rfl (lv_room (Nat.le_of_ble_eq_true rfl)) dL_law_288 ⟨Nat.le_of_ble_eq_true rfl, Nat.le_of_ble_eq_true rfl⟩).run ?_
  refine lv_icmp_eq (tgt := 808) hx hb dL_law_291 (by decide) (fun _ => ?_) (fun h9 => absurd (rfl) h9)
  exact kk B σ hn h r0 r1 r2 r3 r4 wt wn hf sy gp i0 i1 i2 i3 fo de (hI) H locs hP hD hS ls hl
set_option maxHeartbeats 4000000 in
set_option maxRecDepth 100000 in
theorem law_6 {p : Program} {e : Env} {s : State} {m : MethodId} {below : List Frame} {meth : Method} {c : Code} (l : Launch) {b L : Nat} {xs : Nat → Int32} (hL : L ≤ 1536) (C0 : lw_At p s m meth c b L xs) {D : va_G} {Y : Nat → ClassId} (hK : va_K D vwCl (zT Y) s) (hN : zNw s) {A M : Nat → Nat} {i : Nat} (hi : i + 3 ≤ L) (kk : zGo p l e s m below meth c b D Y A M i 808) : zGo p l e s m below meth c b D Y A M i 296 := by
  intro B σ hn h r0 r1 r2 r3 r4 wt wn hf sy gp i0 i1 i2 i3 fo de hI H locs hP hD hS ls hl
  obtain ⟨hx, hb, hr, hml, hown9, hts0, hX, hbl, hlocks, hgv⟩ := id C0
  have hown : s.vm.findClass RL = some m.cls := hown9
  have hts : ∀ w ∈ wsL_law, w.before #[Value.ref b] s = true := fun w hw => hts0 w (wsL_law_in w hw)
  have hbA : ¬ (fun q : Nat => s.heap.size ≤ q) b := Nat.not_le.mpr hbl
  obtain ⟨kσ, kr, khn, ksy, kgp, kM, kwt, kwn, kh, kf⟩ := id hI
  obtain ⟨n3, n12, d1, d3, dn, b4, b10, gl, lm, sn, wl, wnz⟩ := id kσ
  obtain ⟨x1, hx1⟩ : ∃ x, xs (i + 1) = x := ⟨_, rfl⟩
  refine lv_aload_n hx hb dL_law_296 rfl (lv_at hl 2 rfl) ?_
  refine lv_aload_n hx hb dL_law_297 rfl (lv_at hl 1 rfl) ?_
  refine lv_iload_n hx hb dL_law_298 rfl (lv_at hl 0 rfl) ?_
  refine lv_iconst (v := nI 1) hx hb dL_law_299 (by decide) ?_
  refine zv_iadd hx hb (v := nI (i + 1)) dL_law_300 (nI_add _ _) ?_
  refine zl_sld hx hb hX hbl hbA hS (show i + 1 < L by omega) (by omega) (v := (x1)) hx1 dL_law_301 ?_
  refine zc_r (va_runV (C := RX5) (As := [.int (x1)]) (rest := []) ⟨hx, hb, hml, hown, hts⟩ (c_X5_wordOf l D Y A B σ hn h r0 r1 r2 r3 r4 wt wn x1 kσ kr) (cwV 1 hts gL_law_X5_wordOf rfl rfl rfl (by decide +kernel) ⟨Nat.le_of_ble_eq_true rfl, Nat.le_of_ble_eq_true rfl⟩) ⟨zB_blind, va_recv hK (zP_left hP) (ci := 5) (q0 := 0) rfl rfl, zp_r (zP_left hP) hK hN⟩ rfl rfl hl.1 rfl (lv_room (Nat.le_of_ble_eq_true rfl)) dL_law_302 ⟨Nat.le_of_ble_eq_true rfl, Nat.le_of_ble_eq_true rfl⟩).run ?_
  refine lv_aload_n hx hb dL_law_305 rfl (lv_at hl 3 rfl) ?_
  refine lv_aload_n hx hb dL_law_306 rfl (lv_at hl 1 rfl) ?_
  refine lv_iload_n hx hb dL_law_307 rfl (lv_at hl 0 rfl) ?_
  refine lv_iconst (v := nI 1) hx hb dL_law_308 (by decide) ?_
  refine zv_iadd hx hb (v := nI (i + 1)) dL_law_309 (nI_add _ _) ?_
  refine zl_sld hx hb hX hbl hbA hS (show i + 1 < L by omega) (by omega) (v := (x1)) hx1 dL_law_310 ?_
  refine zc_r (va_runV (C := RX6) (As := [.int (x1)]) (rest := [.int (wordV σ (x1).toInt)]) ⟨hx, hb, hml, hown, hts⟩ (c_X6_wordOf l D Y M σ hf hn wt wn sy gp i0 i1 i2 i3 fo de x1 kσ ksy kgp) (cwV 1 hts gL_law_X6_wordOf rfl rfl rfl (by decide +kernel) ⟨Nat.le_of_ble_eq_true rfl, Nat.le_of_ble_eq_true rfl⟩) ⟨zB_blind, va_recv hK (zP_right hP) (ci := 6) (q0 := 0) rfl rfl, zp_r (zP_right hP) hK hN⟩ rfl rfl hl.1 rfl (lv_room (Nat.le_of_ble_eq_true rfl)) dL_law_311 ⟨Nat.le_of_ble_eq_true rfl, Nat.le_of_ble_eq_true rfl⟩).run ?_
  refine lv_icmp_eq (tgt := 808) hx hb dL_law_314 (by decide) (fun _ => ?_) (fun h9 => absurd (rfl) h9)
  exact kk B σ hn h r0 r1 r2 r3 r4 wt wn hf sy gp i0 i1 i2 i3 fo de (hI) H locs hP hD hS ls hl
set_option maxHeartbeats 4000000 in
set_option maxRecDepth 100000 in
theorem law_7 {p : Program} {e : Env} {s : State} {m : MethodId} {below : List Frame} {meth : Method} {c : Code} (l : Launch) {b L : Nat} {xs : Nat → Int32} (hL : L ≤ 1536) (C0 : lw_At p s m meth c b L xs) {D : va_G} {Y : Nat → ClassId} (hK : va_K D vwCl (zT Y) s) (hN : zNw s) {A M : Nat → Nat} {i : Nat} (hi : i + 3 ≤ L) (kk : zGo p l e s m below meth c b D Y A M i 808) : zGo p l e s m below meth c b D Y A M i 319 := by
  intro B σ hn h r0 r1 r2 r3 r4 wt wn hf sy gp i0 i1 i2 i3 fo de hI H locs hP hD hS ls hl
  obtain ⟨hx, hb, hr, hml, hown9, hts0, hX, hbl, hlocks, hgv⟩ := id C0
  have hown : s.vm.findClass RL = some m.cls := hown9
  have hts : ∀ w ∈ wsL_law, w.before #[Value.ref b] s = true := fun w hw => hts0 w (wsL_law_in w hw)
  have hbA : ¬ (fun q : Nat => s.heap.size ≤ q) b := Nat.not_le.mpr hbl
  obtain ⟨kσ, kr, khn, ksy, kgp, kM, kwt, kwn, kh, kf⟩ := id hI
  obtain ⟨n3, n12, d1, d3, dn, b4, b10, gl, lm, sn, wl, wnz⟩ := id kσ
  obtain ⟨x1, hx1⟩ : ∃ x, xs (i + 1) = x := ⟨_, rfl⟩
  obtain ⟨x2, hx2⟩ : ∃ x, xs (i + 2) = x := ⟨_, rfl⟩
  refine lv_aload_n hx hb dL_law_319 rfl (lv_at hl 2 rfl) ?_
  refine lv_aload_n hx hb dL_law_320 rfl (lv_at hl 1 rfl) ?_
  refine lv_iload_n hx hb dL_law_321 rfl (lv_at hl 0 rfl) ?_
  refine lv_iconst (v := nI 1) hx hb dL_law_322 (by decide) ?_
  refine zv_iadd hx hb (v := nI (i + 1)) dL_law_323 (nI_add _ _) ?_
  refine zl_sld hx hb hX hbl hbA hS (show i + 1 < L by omega) (by omega) (v := (x1)) hx1 dL_law_324 ?_
  refine lv_aload_n hx hb dL_law_325 rfl (lv_at hl 1 rfl) ?_
  refine lv_iload_n hx hb dL_law_326 rfl (lv_at hl 0 rfl) ?_
  refine lv_iconst (v := nI 2) hx hb dL_law_327 (by decide) ?_
  refine zv_iadd hx hb (v := nI (i + 2)) dL_law_328 (nI_add _ _) ?_
  refine zl_sld hx hb hX hbl hbA hS (show i + 2 < L by omega) (by omega) (v := (x2)) hx2 dL_law_329 ?_
  refine zc_r (va_runV (C := RX5) (As := [.int (x1), .int (x2)]) (rest := []) ⟨hx, hb, hml, hown, hts⟩ (c_X5_product l D Y A B σ hn h r0 r1 r2 r3 r4 wt wn x1 x2 kσ kr) (cwV 2 hts gL_law_X5_product rfl rfl rfl (by decide +kernel) ⟨Nat.le_of_ble_eq_true rfl, Nat.le_of_ble_eq_true rfl⟩) ⟨zB_blind, va_recv hK (zP_left hP) (ci := 5) (q0 := 0) rfl rfl, zp_r (zP_left hP) hK hN⟩ rfl rfl hl.1 rfl (lv_room (Nat.le_of_ble_eq_true rfl)) dL_law_330 ⟨Nat.le_of_ble_eq_true rfl, Nat.le_of_ble_eq_true rfl⟩).run ?_
  refine lv_aload_n hx hb dL_law_333 rfl (lv_at hl 3 rfl) ?_
  refine lv_aload_n hx hb dL_law_334 rfl (lv_at hl 1 rfl) ?_
  refine lv_iload_n hx hb dL_law_335 rfl (lv_at hl 0 rfl) ?_
  refine lv_iconst (v := nI 1) hx hb dL_law_336 (by decide) ?_
  refine zv_iadd hx hb (v := nI (i + 1)) dL_law_337 (nI_add _ _) ?_
  refine zl_sld hx hb hX hbl hbA hS (show i + 1 < L by omega) (by omega) (v := (x1)) hx1 dL_law_338 ?_
  refine lv_aload_n hx hb dL_law_339 rfl (lv_at hl 1 rfl) ?_
  refine lv_iload_n hx hb dL_law_340 rfl (lv_at hl 0 rfl) ?_
  refine lv_iconst (v := nI 2) hx hb dL_law_341 (by decide) ?_
  refine zv_iadd hx hb (v := nI (i + 2)) dL_law_342 (nI_add _ _) ?_
  refine zl_sld hx hb hX hbl hbA hS (show i + 2 < L by omega) (by omega) (v := (x2)) hx2 dL_law_343 ?_
  refine zc_r (va_runV (C := RX6) (As := [.int (x1), .int (x2)]) (rest := [.int (prodV (x1).toInt (x2).toInt)]) ⟨hx, hb, hml, hown, hts⟩ (c_X6_product l D Y M σ hf hn wt wn sy gp i0 i1 i2 i3 fo de x1 x2 kσ ksy kgp) (cwV 2 hts gL_law_X6_product rfl rfl rfl (by decide +kernel) ⟨Nat.le_of_ble_eq_true rfl, Nat.le_of_ble_eq_true rfl⟩) ⟨zB_blind, va_recv hK (zP_right hP) (ci := 6) (q0 := 0) rfl rfl, zp_r (zP_right hP) hK hN⟩ rfl rfl hl.1 rfl (lv_room (Nat.le_of_ble_eq_true rfl)) dL_law_344 ⟨Nat.le_of_ble_eq_true rfl, Nat.le_of_ble_eq_true rfl⟩).run ?_
  refine lv_icmp_eq (tgt := 808) hx hb dL_law_347 (by decide) (fun _ => ?_) (fun h9 => absurd (rfl) h9)
  exact kk B σ hn h r0 r1 r2 r3 r4 wt wn hf sy gp i0 i1 i2 i3 fo de (hI) H locs hP hD hS ls hl
set_option maxHeartbeats 4000000 in
set_option maxRecDepth 100000 in
theorem law_8 {p : Program} {e : Env} {s : State} {m : MethodId} {below : List Frame} {meth : Method} {c : Code} (l : Launch) {b L : Nat} {xs : Nat → Int32} (hL : L ≤ 1536) (C0 : lw_At p s m meth c b L xs) {D : va_G} {Y : Nat → ClassId} (hK : va_K D vwCl (zT Y) s) (hN : zNw s) {A M : Nat → Nat} {i : Nat} (hi : i + 3 ≤ L) (kk : zGo p l e s m below meth c b D Y A M i 808) : zGo p l e s m below meth c b D Y A M i 352 := by
  intro B σ hn h r0 r1 r2 r3 r4 wt wn hf sy gp i0 i1 i2 i3 fo de hI H locs hP hD hS ls hl
  obtain ⟨hx, hb, hr, hml, hown9, hts0, hX, hbl, hlocks, hgv⟩ := id C0
  have hown : s.vm.findClass RL = some m.cls := hown9
  have hts : ∀ w ∈ wsL_law, w.before #[Value.ref b] s = true := fun w hw => hts0 w (wsL_law_in w hw)
  have hbA : ¬ (fun q : Nat => s.heap.size ≤ q) b := Nat.not_le.mpr hbl
  obtain ⟨kσ, kr, khn, ksy, kgp, kM, kwt, kwn, kh, kf⟩ := id hI
  obtain ⟨n3, n12, d1, d3, dn, b4, b10, gl, lm, sn, wl, wnz⟩ := id kσ
  obtain ⟨x1, hx1⟩ : ∃ x, xs (i + 1) = x := ⟨_, rfl⟩
  obtain ⟨x2, hx2⟩ : ∃ x, xs (i + 2) = x := ⟨_, rfl⟩
  refine lv_aload_n hx hb dL_law_352 rfl (lv_at hl 2 rfl) ?_
  refine lv_aload_n hx hb dL_law_353 rfl (lv_at hl 1 rfl) ?_
  refine lv_iload_n hx hb dL_law_354 rfl (lv_at hl 0 rfl) ?_
  refine lv_iconst (v := nI 1) hx hb dL_law_355 (by decide) ?_
  refine zv_iadd hx hb (v := nI (i + 1)) dL_law_356 (nI_add _ _) ?_
  refine zl_sld hx hb hX hbl hbA hS (show i + 1 < L by omega) (by omega) (v := (x1)) hx1 dL_law_357 ?_
  refine lv_aload_n hx hb dL_law_358 rfl (lv_at hl 1 rfl) ?_
  refine lv_iload_n hx hb dL_law_359 rfl (lv_at hl 0 rfl) ?_
  refine lv_iconst (v := nI 2) hx hb dL_law_360 (by decide) ?_
  refine zv_iadd hx hb (v := nI (i + 2)) dL_law_361 (nI_add _ _) ?_
  refine zl_sld hx hb hX hbl hbA hS (show i + 2 < L by omega) (by omega) (v := (x2)) hx2 dL_law_362 ?_
  refine zc_r (va_runV (C := RX5) (As := [.int (x1), .int (x2)]) (rest := []) ⟨hx, hb, hml, hown, hts⟩ (c_X5_symbolFor l D Y A B σ hn h r0 r1 r2 r3 r4 wt wn x1 x2 kσ kr) (cwV 2 hts gL_law_X5_symbolFor rfl rfl rfl (by decide +kernel) ⟨Nat.le_of_ble_eq_true rfl, Nat.le_of_ble_eq_true rfl⟩) ⟨zB_blind, va_recv hK (zP_left hP) (ci := 5) (q0 := 0) rfl rfl, zp_r (zP_left hP) hK hN⟩ rfl rfl hl.1 rfl (lv_room (Nat.le_of_ble_eq_true rfl)) dL_law_363 ⟨Nat.le_of_ble_eq_true rfl, Nat.le_of_ble_eq_true rfl⟩).run ?_
  refine lv_aload_n hx hb dL_law_366 rfl (lv_at hl 3 rfl) ?_
  refine lv_aload_n hx hb dL_law_367 rfl (lv_at hl 1 rfl) ?_
  refine lv_iload_n hx hb dL_law_368 rfl (lv_at hl 0 rfl) ?_
  refine lv_iconst (v := nI 1) hx hb dL_law_369 (by decide) ?_
  refine zv_iadd hx hb (v := nI (i + 1)) dL_law_370 (nI_add _ _) ?_
  refine zl_sld hx hb hX hbl hbA hS (show i + 1 < L by omega) (by omega) (v := (x1)) hx1 dL_law_371 ?_
  refine lv_aload_n hx hb dL_law_372 rfl (lv_at hl 1 rfl) ?_
  refine lv_iload_n hx hb dL_law_373 rfl (lv_at hl 0 rfl) ?_
  refine lv_iconst (v := nI 2) hx hb dL_law_374 (by decide) ?_
  refine zv_iadd hx hb (v := nI (i + 2)) dL_law_375 (nI_add _ _) ?_
  refine zl_sld hx hb hX hbl hbA hS (show i + 2 < L by omega) (by omega) (v := (x2)) hx2 dL_law_376 ?_
  refine zc_r (va_runV (C := RX6) (As := [.int (x1), .int (x2)]) (rest := [.int (symV σ (x1).toInt (x2).toInt)]) ⟨hx, hb, hml, hown, hts⟩ (c_X6_symbolFor l D Y M σ hf hn wt wn sy gp i0 i1 i2 i3 fo de x1 x2 kσ ksy kgp) (cwV 2 hts gL_law_X6_symbolFor rfl rfl rfl (by decide +kernel) ⟨Nat.le_of_ble_eq_true rfl, Nat.le_of_ble_eq_true rfl⟩) ⟨zB_blind, va_recv hK (zP_right hP) (ci := 6) (q0 := 0) rfl rfl, zp_r (zP_right hP) hK hN⟩ rfl rfl hl.1 rfl (lv_room (Nat.le_of_ble_eq_true rfl)) dL_law_377 ⟨Nat.le_of_ble_eq_true rfl, Nat.le_of_ble_eq_true rfl⟩).run ?_
  refine lv_icmp_eq (tgt := 808) hx hb dL_law_380 (by decide) (fun _ => ?_) (fun h9 => absurd (rfl) h9)
  exact kk B σ hn h r0 r1 r2 r3 r4 wt wn hf sy gp i0 i1 i2 i3 fo de (hI) H locs hP hD hS ls hl
set_option maxHeartbeats 4000000 in
set_option maxRecDepth 100000 in
theorem law_9 {p : Program} {e : Env} {s : State} {m : MethodId} {below : List Frame} {meth : Method} {c : Code} (l : Launch) {b L : Nat} {xs : Nat → Int32} (hL : L ≤ 1536) (C0 : lw_At p s m meth c b L xs) {D : va_G} {Y : Nat → ClassId} (hK : va_K D vwCl (zT Y) s) (hN : zNw s) {A M : Nat → Nat} {i : Nat} (hi : i + 3 ≤ L) (kk : zGo p l e s m below meth c b D Y A M i 808) : zGo p l e s m below meth c b D Y A M i 385 := by
  intro B σ hn h r0 r1 r2 r3 r4 wt wn hf sy gp i0 i1 i2 i3 fo de hI H locs hP hD hS ls hl
  obtain ⟨hx, hb, hr, hml, hown9, hts0, hX, hbl, hlocks, hgv⟩ := id C0
  have hown : s.vm.findClass RL = some m.cls := hown9
  have hts : ∀ w ∈ wsL_law, w.before #[Value.ref b] s = true := fun w hw => hts0 w (wsL_law_in w hw)
  have hbA : ¬ (fun q : Nat => s.heap.size ≤ q) b := Nat.not_le.mpr hbl
  obtain ⟨kσ, kr, khn, ksy, kgp, kM, kwt, kwn, kh, kf⟩ := id hI
  obtain ⟨n3, n12, d1, d3, dn, b4, b10, gl, lm, sn, wl, wnz⟩ := id kσ
  obtain ⟨x1, hx1⟩ : ∃ x, xs (i + 1) = x := ⟨_, rfl⟩
  by_cases hbad : ¬ (0 ≤ (x1).toInt ∧ (x1).toInt < ((2 ^ (4 * σ 1) : Nat) : Int))
  · refine lv_aload_n hx hb dL_law_385 rfl (lv_at hl 2 rfl) ?_
    refine lv_aload_n hx hb dL_law_386 rfl (lv_at hl 1 rfl) ?_
    refine lv_iload_n hx hb dL_law_387 rfl (lv_at hl 0 rfl) ?_
    refine lv_iconst (v := nI 1) hx hb dL_law_388 (by decide) ?_
    refine zv_iadd hx hb (v := nI (i + 1)) dL_law_389 (nI_add _ _) ?_
    refine zl_sld hx hb hX hbl hbA hS (show i + 1 < L by omega) (by omega) (v := (x1)) hx1 dL_law_390 ?_
    refine zc_r (va_runV (C := RX5) (As := [.int (x1)]) (rest := []) ⟨hx, hb, hml, hown, hts⟩ (c_X5_send_bad l D Y A B σ hn h r0 r1 r2 r3 r4 wt wn x1 kσ kr hbad) (cwV 1 hts gL_law_X5_send rfl rfl rfl (by decide +kernel) ⟨Nat.le_of_ble_eq_true rfl, Nat.le_of_ble_eq_true rfl⟩) ⟨zB_blind, va_recv hK (zP_left hP) (ci := 5) (q0 := 0) rfl rfl, zp_r (zP_left hP) hK hN⟩ rfl rfl hl.1 rfl (lv_room (Nat.le_of_ble_eq_true rfl)) dL_law_391 ⟨Nat.le_of_ble_eq_true rfl, Nat.le_of_ble_eq_true rfl⟩).run ?_
    refine lv_aload_n hx hb dL_law_394 rfl (lv_at hl 3 rfl) ?_
    refine lv_aload_n hx hb dL_law_395 rfl (lv_at hl 1 rfl) ?_
    refine lv_iload_n hx hb dL_law_396 rfl (lv_at hl 0 rfl) ?_
    refine lv_iconst (v := nI 1) hx hb dL_law_397 (by decide) ?_
    refine zv_iadd hx hb (v := nI (i + 1)) dL_law_398 (nI_add _ _) ?_
    refine zl_sld hx hb hX hbl hbA hS (show i + 1 < L by omega) (by omega) (v := (x1)) hx1 dL_law_399 ?_
    refine zc_r (va_runV (C := RX6) (As := [.int (x1)]) (rest := [.int (-1001)]) ⟨hx, hb, hml, hown, hts⟩ (c_X6_send_bad l D Y M σ hf hn wt wn sy gp i0 i1 i2 i3 fo de x1 kσ ksy kgp hbad) (cwV 1 hts gL_law_X6_send rfl rfl rfl (by decide +kernel) ⟨Nat.le_of_ble_eq_true rfl, Nat.le_of_ble_eq_true rfl⟩) ⟨zB_blind, va_recv hK (zP_right hP) (ci := 6) (q0 := 0) rfl rfl, zp_r (zP_right hP) hK hN⟩ rfl rfl hl.1 rfl (lv_room (Nat.le_of_ble_eq_true rfl)) dL_law_400 ⟨Nat.le_of_ble_eq_true rfl, Nat.le_of_ble_eq_true rfl⟩).run ?_
    refine lv_icmp_eq (tgt := 808) hx hb dL_law_403 (by decide) (fun _ => ?_) (fun h9 => absurd (rfl) h9)
    exact kk B σ hn h r0 r1 r2 r3 r4 wt wn hf sy gp i0 i1 i2 i3 fo de (hI) H locs hP hD hS ls hl
  · obtain ⟨j1, rfl, hj1⟩ := zNat9 x1 (by omega)
    have e1 := zt_n hj1
    have hm : j1 < 2 ^ (4 * σ 1) := by omega
    have kτ := zWF_snd kσ (i := σ 0) hm
    refine lv_aload_n hx hb dL_law_385 rfl (lv_at hl 2 rfl) ?_
    refine lv_aload_n hx hb dL_law_386 rfl (lv_at hl 1 rfl) ?_
    refine lv_iload_n hx hb dL_law_387 rfl (lv_at hl 0 rfl) ?_
    refine lv_iconst (v := nI 1) hx hb dL_law_388 (by decide) ?_
    refine zv_iadd hx hb (v := nI (i + 1)) dL_law_389 (nI_add _ _) ?_
    refine zl_sld hx hb hX hbl hbA hS (show i + 1 < L by omega) (by omega) (v := (nI j1)) hx1 dL_law_390 ?_
    refine zc_wl (va_runV (C := RX5) (As := [.int (nI j1)]) (rest := []) ⟨hx, hb, hml, hown, hts⟩ (c_X5_send l D Y A B σ hn h r0 r1 r2 r3 r4 wt wn j1 kσ kr khn hm) (cwV 1 hts gL_law_X5_send rfl rfl rfl (by decide +kernel) ⟨Nat.le_of_ble_eq_true rfl, Nat.le_of_ble_eq_true rfl⟩) ⟨zBw_blind, va_recv hK (zP_left hP) (ci := 5) (q0 := 0) rfl rfl, zp_w (zP_left hP) (zD_left hD) hK hN⟩ rfl rfl hl.1 rfl (lv_room (Nat.le_of_ble_eq_true rfl)) dL_law_391 ⟨Nat.le_of_ble_eq_true rfl, Nat.le_of_ble_eq_true rfl⟩).run hP hD hS (CX_dd (CX_recD (zD_self (zD_left hD)))) (fun H locs hP hD hS => ?_)
    refine lv_aload_n hx hb dL_law_394 rfl (lv_at hl 3 rfl) ?_
    refine lv_aload_n hx hb dL_law_395 rfl (lv_at hl 1 rfl) ?_
    refine lv_iload_n hx hb dL_law_396 rfl (lv_at hl 0 rfl) ?_
    refine lv_iconst (v := nI 1) hx hb dL_law_397 (by decide) ?_
    refine zv_iadd hx hb (v := nI (i + 1)) dL_law_398 (nI_add _ _) ?_
    refine zl_sld hx hb hX hbl hbA hS (show i + 1 < L by omega) (by omega) (v := (nI j1)) hx1 dL_law_399 ?_
    refine zc_wr (va_runV (C := RX6) (As := [.int (nI j1)]) (rest := [.int (nI (sndN σ j1 (σ 0)))]) ⟨hx, hb, hml, hown, hts⟩ (c_X6_send l D Y M σ hf hn wt wn sy gp i0 i1 i2 i3 fo de j1 kσ ksy kgp khn hm) (cwV 1 hts gL_law_X6_send rfl rfl rfl (by decide +kernel) ⟨Nat.le_of_ble_eq_true rfl, Nat.le_of_ble_eq_true rfl⟩) ⟨zBw_blind, va_recv hK (zP_right hP) (ci := 6) (q0 := 0) rfl rfl, zp_w (zP_right hP) (zD_right hD) hK hN⟩ rfl rfl hl.1 rfl (lv_room (Nat.le_of_ble_eq_true rfl)) dL_law_400 ⟨Nat.le_of_ble_eq_true rfl, Nat.le_of_ble_eq_true rfl⟩).run hP hD hS (MX_dd ((zD_self (zD_right hD)))) (fun H locs hP hD hS => ?_)
    refine lv_icmp_eq (tgt := 808) hx hb dL_law_403 (by decide) (fun _ => ?_) (fun h9 => absurd (rfl) h9)
    exact kk (recB B hn) (sndI σ j1 (σ 0)) (recN hn) (recH h hn σ) (ag0 (sndI σ j1 (σ 0)) r0) (ag1 (sndI σ j1 (σ 0)) r1) (ag2 (sndI σ j1 (σ 0)) r2) (ag3 (sndI σ j1 (σ 0)) r2 r3) (ag4 (sndI σ j1 (σ 0)) r2 r4) wt wn (recF hf hn σ) sy gp i0 i1 i2 i3 fo de (inv_same hI kτ (Nat.two_pow_pos _) (snd_2 σ j1 (σ 0)) (snd_g σ j1 (σ 0))) H locs hP hD hS ls hl
set_option maxHeartbeats 4000000 in
set_option maxRecDepth 100000 in
theorem law_10 {p : Program} {e : Env} {s : State} {m : MethodId} {below : List Frame} {meth : Method} {c : Code} (l : Launch) {b L : Nat} {xs : Nat → Int32} (hL : L ≤ 1536) (C0 : lw_At p s m meth c b L xs) {D : va_G} {Y : Nat → ClassId} (hK : va_K D vwCl (zT Y) s) (hN : zNw s) {A M : Nat → Nat} {i : Nat} (hi : i + 3 ≤ L) (kk : zGo p l e s m below meth c b D Y A M i 808) : zGo p l e s m below meth c b D Y A M i 408 := by
  intro B σ hn h r0 r1 r2 r3 r4 wt wn hf sy gp i0 i1 i2 i3 fo de hI H locs hP hD hS ls hl
  obtain ⟨hx, hb, hr, hml, hown9, hts0, hX, hbl, hlocks, hgv⟩ := id C0
  have hown : s.vm.findClass RL = some m.cls := hown9
  have hts : ∀ w ∈ wsL_law, w.before #[Value.ref b] s = true := fun w hw => hts0 w (wsL_law_in w hw)
  have hbA : ¬ (fun q : Nat => s.heap.size ≤ q) b := Nat.not_le.mpr hbl
  obtain ⟨kσ, kr, khn, ksy, kgp, kM, kwt, kwn, kh, kf⟩ := id hI
  obtain ⟨n3, n12, d1, d3, dn, b4, b10, gl, lm, sn, wl, wnz⟩ := id kσ
  obtain ⟨x1, hx1⟩ : ∃ x, xs (i + 1) = x := ⟨_, rfl⟩
  obtain ⟨x2, hx2⟩ : ∃ x, xs (i + 2) = x := ⟨_, rfl⟩
  by_cases hbad : ¬ ((0 ≤ (x1).toInt ∧ (x1).toInt < ((σ 0 : Nat) : Int)) ∧ 1 ≤ (x2).toInt ∧ (x2).toInt ≤ ((2 ^ (σ 2) - 1 : Nat) : Int))
  · refine lv_aload_n hx hb dL_law_408 rfl (lv_at hl 2 rfl) ?_
    refine lv_aload_n hx hb dL_law_409 rfl (lv_at hl 1 rfl) ?_
    refine lv_iload_n hx hb dL_law_410 rfl (lv_at hl 0 rfl) ?_
    refine lv_iconst (v := nI 1) hx hb dL_law_411 (by decide) ?_
    refine zv_iadd hx hb (v := nI (i + 1)) dL_law_412 (nI_add _ _) ?_
    refine zl_sld hx hb hX hbl hbA hS (show i + 1 < L by omega) (by omega) (v := (x1)) hx1 dL_law_413 ?_
    refine lv_aload_n hx hb dL_law_414 rfl (lv_at hl 1 rfl) ?_
    refine lv_iload_n hx hb dL_law_415 rfl (lv_at hl 0 rfl) ?_
    refine lv_iconst (v := nI 2) hx hb dL_law_416 (by decide) ?_
    refine zv_iadd hx hb (v := nI (i + 2)) dL_law_417 (nI_add _ _) ?_
    refine zl_sld hx hb hX hbl hbA hS (show i + 2 < L by omega) (by omega) (v := (x2)) hx2 dL_law_418 ?_
    refine zc_r (va_runV (C := RX5) (As := [.int (x1), .int (x2)]) (rest := []) ⟨hx, hb, hml, hown, hts⟩ (c_X5_flip_bad l D Y A B σ hn h r0 r1 r2 r3 r4 wt wn x1 x2 kσ kr hbad) (cwV 2 hts gL_law_X5_flip rfl rfl rfl (by decide +kernel) ⟨Nat.le_of_ble_eq_true rfl, Nat.le_of_ble_eq_true rfl⟩) ⟨zB_blind, va_recv hK (zP_left hP) (ci := 5) (q0 := 0) rfl rfl, zp_r (zP_left hP) hK hN⟩ rfl rfl hl.1 rfl (lv_room (Nat.le_of_ble_eq_true rfl)) dL_law_419 ⟨Nat.le_of_ble_eq_true rfl, Nat.le_of_ble_eq_true rfl⟩).run ?_
    refine lv_aload_n hx hb dL_law_422 rfl (lv_at hl 3 rfl) ?_
    refine lv_aload_n hx hb dL_law_423 rfl (lv_at hl 1 rfl) ?_
    refine lv_iload_n hx hb dL_law_424 rfl (lv_at hl 0 rfl) ?_
    refine lv_iconst (v := nI 1) hx hb dL_law_425 (by decide) ?_
    refine zv_iadd hx hb (v := nI (i + 1)) dL_law_426 (nI_add _ _) ?_
    refine zl_sld hx hb hX hbl hbA hS (show i + 1 < L by omega) (by omega) (v := (x1)) hx1 dL_law_427 ?_
    refine lv_aload_n hx hb dL_law_428 rfl (lv_at hl 1 rfl) ?_
    refine lv_iload_n hx hb dL_law_429 rfl (lv_at hl 0 rfl) ?_
    refine lv_iconst (v := nI 2) hx hb dL_law_430 (by decide) ?_
    refine zv_iadd hx hb (v := nI (i + 2)) dL_law_431 (nI_add _ _) ?_
    refine zl_sld hx hb hX hbl hbA hS (show i + 2 < L by omega) (by omega) (v := (x2)) hx2 dL_law_432 ?_
    refine zc_r (va_runV (C := RX6) (As := [.int (x1), .int (x2)]) (rest := [.int (-1001)]) ⟨hx, hb, hml, hown, hts⟩ (c_X6_flip_bad l D Y M σ hf hn wt wn sy gp i0 i1 i2 i3 fo de x1 x2 kσ ksy kgp hbad) (cwV 2 hts gL_law_X6_flip rfl rfl rfl (by decide +kernel) ⟨Nat.le_of_ble_eq_true rfl, Nat.le_of_ble_eq_true rfl⟩) ⟨zB_blind, va_recv hK (zP_right hP) (ci := 6) (q0 := 0) rfl rfl, zp_r (zP_right hP) hK hN⟩ rfl rfl hl.1 rfl (lv_room (Nat.le_of_ble_eq_true rfl)) dL_law_433 ⟨Nat.le_of_ble_eq_true rfl, Nat.le_of_ble_eq_true rfl⟩).run ?_
    refine lv_icmp_eq (tgt := 808) hx hb dL_law_436 (by decide) (fun _ => ?_) (fun h9 => absurd (rfl) h9)
    exact kk B σ hn h r0 r1 r2 r3 r4 wt wn hf sy gp i0 i1 i2 i3 fo de (hI) H locs hP hD hS ls hl
  · obtain ⟨j1, rfl, hj1⟩ := zNat9 x1 (by omega)
    have e1 := zt_n hj1
    obtain ⟨j2, rfl, hj2⟩ := zNat9 x2 (by omega)
    have e2 := zt_n hj2
    have p2 := Nat.two_pow_pos (σ 2)
    have hz := zL_01 (σ 7) j1
    by_cases hls : zL (σ 7) j1 = 1
    · refine lv_aload_n hx hb dL_law_408 rfl (lv_at hl 2 rfl) ?_
      refine lv_aload_n hx hb dL_law_409 rfl (lv_at hl 1 rfl) ?_
      refine lv_iload_n hx hb dL_law_410 rfl (lv_at hl 0 rfl) ?_
      refine lv_iconst (v := nI 1) hx hb dL_law_411 (by decide) ?_
      refine zv_iadd hx hb (v := nI (i + 1)) dL_law_412 (nI_add _ _) ?_
      refine zl_sld hx hb hX hbl hbA hS (show i + 1 < L by omega) (by omega) (v := (nI j1)) hx1 dL_law_413 ?_
      refine lv_aload_n hx hb dL_law_414 rfl (lv_at hl 1 rfl) ?_
      refine lv_iload_n hx hb dL_law_415 rfl (lv_at hl 0 rfl) ?_
      refine lv_iconst (v := nI 2) hx hb dL_law_416 (by decide) ?_
      refine zv_iadd hx hb (v := nI (i + 2)) dL_law_417 (nI_add _ _) ?_
      refine zl_sld hx hb hX hbl hbA hS (show i + 2 < L by omega) (by omega) (v := (nI j2)) hx2 dL_law_418 ?_
      refine zc_r (va_runV (C := RX5) (As := [.int (nI j1), .int (nI j2)]) (rest := []) ⟨hx, hb, hml, hown, hts⟩ (c_X5_flip_lost l D Y A B σ hn h r0 r1 r2 r3 r4 wt wn j1 j2 kσ kr (by omega) (by omega) (by omega) (by omega)) (cwV 2 hts gL_law_X5_flip rfl rfl rfl (by decide +kernel) ⟨Nat.le_of_ble_eq_true rfl, Nat.le_of_ble_eq_true rfl⟩) ⟨zB_blind, va_recv hK (zP_left hP) (ci := 5) (q0 := 0) rfl rfl, zp_r (zP_left hP) hK hN⟩ rfl rfl hl.1 rfl (lv_room (Nat.le_of_ble_eq_true rfl)) dL_law_419 ⟨Nat.le_of_ble_eq_true rfl, Nat.le_of_ble_eq_true rfl⟩).run ?_
      refine lv_aload_n hx hb dL_law_422 rfl (lv_at hl 3 rfl) ?_
      refine lv_aload_n hx hb dL_law_423 rfl (lv_at hl 1 rfl) ?_
      refine lv_iload_n hx hb dL_law_424 rfl (lv_at hl 0 rfl) ?_
      refine lv_iconst (v := nI 1) hx hb dL_law_425 (by decide) ?_
      refine zv_iadd hx hb (v := nI (i + 1)) dL_law_426 (nI_add _ _) ?_
      refine zl_sld hx hb hX hbl hbA hS (show i + 1 < L by omega) (by omega) (v := (nI j1)) hx1 dL_law_427 ?_
      refine lv_aload_n hx hb dL_law_428 rfl (lv_at hl 1 rfl) ?_
      refine lv_iload_n hx hb dL_law_429 rfl (lv_at hl 0 rfl) ?_
      refine lv_iconst (v := nI 2) hx hb dL_law_430 (by decide) ?_
      refine zv_iadd hx hb (v := nI (i + 2)) dL_law_431 (nI_add _ _) ?_
      refine zl_sld hx hb hX hbl hbA hS (show i + 2 < L by omega) (by omega) (v := (nI j2)) hx2 dL_law_432 ?_
      refine zc_r (va_runV (C := RX6) (As := [.int (nI j1), .int (nI j2)]) (rest := [.int (-1002)]) ⟨hx, hb, hml, hown, hts⟩ (c_X6_flip_lost l D Y M σ hf hn wt wn sy gp i0 i1 i2 i3 fo de j1 j2 kσ ksy kgp (by omega) (by omega) (by omega) (by omega)) (cwV 2 hts gL_law_X6_flip rfl rfl rfl (by decide +kernel) ⟨Nat.le_of_ble_eq_true rfl, Nat.le_of_ble_eq_true rfl⟩) ⟨zB_blind, va_recv hK (zP_right hP) (ci := 6) (q0 := 0) rfl rfl, zp_r (zP_right hP) hK hN⟩ rfl rfl hl.1 rfl (lv_room (Nat.le_of_ble_eq_true rfl)) dL_law_433 ⟨Nat.le_of_ble_eq_true rfl, Nat.le_of_ble_eq_true rfl⟩).run ?_
      refine lv_icmp_eq (tgt := 808) hx hb dL_law_436 (by decide) (fun _ => ?_) (fun h9 => absurd (rfl) h9)
      exact kk B σ hn h r0 r1 r2 r3 r4 wt wn hf sy gp i0 i1 i2 i3 fo de (hI) H locs hP hD hS ls hl
    · have kτ := zWF_flp (mk := j2) kσ (show j1 < 12 by omega) (by omega)
      refine lv_aload_n hx hb dL_law_408 rfl (lv_at hl 2 rfl) ?_
      refine lv_aload_n hx hb dL_law_409 rfl (lv_at hl 1 rfl) ?_
      refine lv_iload_n hx hb dL_law_410 rfl (lv_at hl 0 rfl) ?_
      refine lv_iconst (v := nI 1) hx hb dL_law_411 (by decide) ?_
      refine zv_iadd hx hb (v := nI (i + 1)) dL_law_412 (nI_add _ _) ?_
      refine zl_sld hx hb hX hbl hbA hS (show i + 1 < L by omega) (by omega) (v := (nI j1)) hx1 dL_law_413 ?_
      refine lv_aload_n hx hb dL_law_414 rfl (lv_at hl 1 rfl) ?_
      refine lv_iload_n hx hb dL_law_415 rfl (lv_at hl 0 rfl) ?_
      refine lv_iconst (v := nI 2) hx hb dL_law_416 (by decide) ?_
      refine zv_iadd hx hb (v := nI (i + 2)) dL_law_417 (nI_add _ _) ?_
      refine zl_sld hx hb hX hbl hbA hS (show i + 2 < L by omega) (by omega) (v := (nI j2)) hx2 dL_law_418 ?_
      refine zc_wl (va_runV (C := RX5) (As := [.int (nI j1), .int (nI j2)]) (rest := []) ⟨hx, hb, hml, hown, hts⟩ (c_X5_flip l D Y A B σ hn h r0 r1 r2 r3 r4 wt wn j1 j2 kσ kr khn (by omega) (by omega) (by omega) (by omega)) (cwV 2 hts gL_law_X5_flip rfl rfl rfl (by decide +kernel) ⟨Nat.le_of_ble_eq_true rfl, Nat.le_of_ble_eq_true rfl⟩) ⟨zBw_blind, va_recv hK (zP_left hP) (ci := 5) (q0 := 0) rfl rfl, zp_w (zP_left hP) (zD_left hD) hK hN⟩ rfl rfl hl.1 rfl (lv_room (Nat.le_of_ble_eq_true rfl)) dL_law_419 ⟨Nat.le_of_ble_eq_true rfl, Nat.le_of_ble_eq_true rfl⟩).run hP hD hS (CX_dd (CX_recD (zD_self (zD_left hD)))) (fun H locs hP hD hS => ?_)
      refine lv_aload_n hx hb dL_law_422 rfl (lv_at hl 3 rfl) ?_
      refine lv_aload_n hx hb dL_law_423 rfl (lv_at hl 1 rfl) ?_
      refine lv_iload_n hx hb dL_law_424 rfl (lv_at hl 0 rfl) ?_
      refine lv_iconst (v := nI 1) hx hb dL_law_425 (by decide) ?_
      refine zv_iadd hx hb (v := nI (i + 1)) dL_law_426 (nI_add _ _) ?_
      refine zl_sld hx hb hX hbl hbA hS (show i + 1 < L by omega) (by omega) (v := (nI j1)) hx1 dL_law_427 ?_
      refine lv_aload_n hx hb dL_law_428 rfl (lv_at hl 1 rfl) ?_
      refine lv_iload_n hx hb dL_law_429 rfl (lv_at hl 0 rfl) ?_
      refine lv_iconst (v := nI 2) hx hb dL_law_430 (by decide) ?_
      refine zv_iadd hx hb (v := nI (i + 2)) dL_law_431 (nI_add _ _) ?_
      refine zl_sld hx hb hX hbl hbA hS (show i + 2 < L by omega) (by omega) (v := (nI j2)) hx2 dL_law_432 ?_
      refine zc_wr (va_runV (C := RX6) (As := [.int (nI j1), .int (nI j2)]) (rest := [.int (nI (faS (flpS σ j1 j2) j1))]) ⟨hx, hb, hml, hown, hts⟩ (c_X6_flip l D Y M σ hf hn wt wn sy gp i0 i1 i2 i3 fo de j1 j2 kσ ksy kgp khn (by omega) (by omega) (by omega) (by omega)) (cwV 2 hts gL_law_X6_flip rfl rfl rfl (by decide +kernel) ⟨Nat.le_of_ble_eq_true rfl, Nat.le_of_ble_eq_true rfl⟩) ⟨zBw_blind, va_recv hK (zP_right hP) (ci := 6) (q0 := 0) rfl rfl, zp_w (zP_right hP) (zD_right hD) hK hN⟩ rfl rfl hl.1 rfl (lv_room (Nat.le_of_ble_eq_true rfl)) dL_law_433 ⟨Nat.le_of_ble_eq_true rfl, Nat.le_of_ble_eq_true rfl⟩).run hP hD hS (MX_dd ((zD_self (zD_right hD)))) (fun H locs hP hD hS => ?_)
      refine lv_icmp_eq (tgt := 808) hx hb dL_law_436 (by decide) (fun _ => ?_) (fun h9 => absurd (rfl) h9)
      exact kk (recB B hn) (flpS σ j1 j2) (recN hn) (recH h hn σ) (ag0 (flpS σ j1 j2) r0) (ag1 (flpS σ j1 j2) r1) (ag2 (flpS σ j1 j2) r2) (ag3 (flpS σ j1 j2) r2 r3) (ag4 (flpS σ j1 j2) r2 r4) wt wn (recF hf hn σ) sy gp i0 i1 i2 i3 fo de (inv_same hI kτ (flp_7 kM) (flp_lo _ _ _ (by decide)) (flp_g σ j1 j2)) H locs hP hD hS ls hl
set_option maxHeartbeats 4000000 in
set_option maxRecDepth 100000 in
theorem law_11 {p : Program} {e : Env} {s : State} {m : MethodId} {below : List Frame} {meth : Method} {c : Code} (l : Launch) {b L : Nat} {xs : Nat → Int32} (hL : L ≤ 1536) (C0 : lw_At p s m meth c b L xs) {D : va_G} {Y : Nat → ClassId} (hK : va_K D vwCl (zT Y) s) (hN : zNw s) {A M : Nat → Nat} {i : Nat} (hi : i + 3 ≤ L) (kk : zGo p l e s m below meth c b D Y A M i 808) : zGo p l e s m below meth c b D Y A M i 441 := by
  intro B σ hn h r0 r1 r2 r3 r4 wt wn hf sy gp i0 i1 i2 i3 fo de hI H locs hP hD hS ls hl
  obtain ⟨hx, hb, hr, hml, hown9, hts0, hX, hbl, hlocks, hgv⟩ := id C0
  have hown : s.vm.findClass RL = some m.cls := hown9
  have hts : ∀ w ∈ wsL_law, w.before #[Value.ref b] s = true := fun w hw => hts0 w (wsL_law_in w hw)
  have hbA : ¬ (fun q : Nat => s.heap.size ≤ q) b := Nat.not_le.mpr hbl
  obtain ⟨kσ, kr, khn, ksy, kgp, kM, kwt, kwn, kh, kf⟩ := id hI
  obtain ⟨n3, n12, d1, d3, dn, b4, b10, gl, lm, sn, wl, wnz⟩ := id kσ
  obtain ⟨x1, hx1⟩ : ∃ x, xs (i + 1) = x := ⟨_, rfl⟩
  obtain ⟨x2, hx2⟩ : ∃ x, xs (i + 2) = x := ⟨_, rfl⟩
  by_cases hbad : ¬ ((0 ≤ (x1).toInt ∧ (x1).toInt < ((σ 0 : Nat) : Int)) ∧ 0 ≤ (x2).toInt ∧ (x2).toInt ≤ 1)
  · refine lv_aload_n hx hb dL_law_441 rfl (lv_at hl 2 rfl) ?_
    refine lv_aload_n hx hb dL_law_442 rfl (lv_at hl 1 rfl) ?_
    refine lv_iload_n hx hb dL_law_443 rfl (lv_at hl 0 rfl) ?_
    refine lv_iconst (v := nI 1) hx hb dL_law_444 (by decide) ?_
    refine zv_iadd hx hb (v := nI (i + 1)) dL_law_445 (nI_add _ _) ?_
    refine zl_sld hx hb hX hbl hbA hS (show i + 1 < L by omega) (by omega) (v := (x1)) hx1 dL_law_446 ?_
    refine lv_aload_n hx hb dL_law_447 rfl (lv_at hl 1 rfl) ?_
    refine lv_iload_n hx hb dL_law_448 rfl (lv_at hl 0 rfl) ?_
    refine lv_iconst (v := nI 2) hx hb dL_law_449 (by decide) ?_
    refine zv_iadd hx hb (v := nI (i + 2)) dL_law_450 (nI_add _ _) ?_
    refine zl_sld hx hb hX hbl hbA hS (show i + 2 < L by omega) (by omega) (v := (x2)) hx2 dL_law_451 ?_
    refine zc_r (va_runV (C := RX5) (As := [.int (x1), .int (x2)]) (rest := []) ⟨hx, hb, hml, hown, hts⟩ (c_X5_lose_bad l D Y A B σ hn h r0 r1 r2 r3 r4 wt wn x1 x2 kσ kr hbad) (cwV 2 hts gL_law_X5_lose rfl rfl rfl (by decide +kernel) ⟨Nat.le_of_ble_eq_true rfl, Nat.le_of_ble_eq_true rfl⟩) ⟨zB_blind, va_recv hK (zP_left hP) (ci := 5) (q0 := 0) rfl rfl, zp_r (zP_left hP) hK hN⟩ rfl rfl hl.1 rfl (lv_room (Nat.le_of_ble_eq_true rfl)) dL_law_452 ⟨Nat.le_of_ble_eq_true rfl, Nat.le_of_ble_eq_true rfl⟩).run ?_
    refine lv_aload_n hx hb dL_law_455 rfl (lv_at hl 3 rfl) ?_
    refine lv_aload_n hx hb dL_law_456 rfl (lv_at hl 1 rfl) ?_
    refine lv_iload_n hx hb dL_law_457 rfl (lv_at hl 0 rfl) ?_
    refine lv_iconst (v := nI 1) hx hb dL_law_458 (by decide) ?_
    refine zv_iadd hx hb (v := nI (i + 1)) dL_law_459 (nI_add _ _) ?_
    refine zl_sld hx hb hX hbl hbA hS (show i + 1 < L by omega) (by omega) (v := (x1)) hx1 dL_law_460 ?_
    refine lv_aload_n hx hb dL_law_461 rfl (lv_at hl 1 rfl) ?_
    refine lv_iload_n hx hb dL_law_462 rfl (lv_at hl 0 rfl) ?_
    refine lv_iconst (v := nI 2) hx hb dL_law_463 (by decide) ?_
    refine zv_iadd hx hb (v := nI (i + 2)) dL_law_464 (nI_add _ _) ?_
    refine zl_sld hx hb hX hbl hbA hS (show i + 2 < L by omega) (by omega) (v := (x2)) hx2 dL_law_465 ?_
    refine zc_r (va_runV (C := RX6) (As := [.int (x1), .int (x2)]) (rest := [.int (-1001)]) ⟨hx, hb, hml, hown, hts⟩ (c_X6_lose_bad l D Y M σ hf hn wt wn sy gp i0 i1 i2 i3 fo de x1 x2 kσ ksy kgp hbad) (cwV 2 hts gL_law_X6_lose rfl rfl rfl (by decide +kernel) ⟨Nat.le_of_ble_eq_true rfl, Nat.le_of_ble_eq_true rfl⟩) ⟨zB_blind, va_recv hK (zP_right hP) (ci := 6) (q0 := 0) rfl rfl, zp_r (zP_right hP) hK hN⟩ rfl rfl hl.1 rfl (lv_room (Nat.le_of_ble_eq_true rfl)) dL_law_466 ⟨Nat.le_of_ble_eq_true rfl, Nat.le_of_ble_eq_true rfl⟩).run ?_
    refine lv_icmp_eq (tgt := 808) hx hb dL_law_469 (by decide) (fun _ => ?_) (fun h9 => absurd (rfl) h9)
    exact kk B σ hn h r0 r1 r2 r3 r4 wt wn hf sy gp i0 i1 i2 i3 fo de (hI) H locs hP hD hS ls hl
  · obtain ⟨j1, rfl, hj1⟩ := zNat9 x1 (by omega)
    have e1 := zt_n hj1
    obtain ⟨j2, rfl, hj2⟩ := zNat9 x2 (by omega)
    have e2 := zt_n hj2
    have kτ := zWF_los (v := j2) kσ (show j1 < 12 by omega)
    refine lv_aload_n hx hb dL_law_441 rfl (lv_at hl 2 rfl) ?_
    refine lv_aload_n hx hb dL_law_442 rfl (lv_at hl 1 rfl) ?_
    refine lv_iload_n hx hb dL_law_443 rfl (lv_at hl 0 rfl) ?_
    refine lv_iconst (v := nI 1) hx hb dL_law_444 (by decide) ?_
    refine zv_iadd hx hb (v := nI (i + 1)) dL_law_445 (nI_add _ _) ?_
    refine zl_sld hx hb hX hbl hbA hS (show i + 1 < L by omega) (by omega) (v := (nI j1)) hx1 dL_law_446 ?_
    refine lv_aload_n hx hb dL_law_447 rfl (lv_at hl 1 rfl) ?_
    refine lv_iload_n hx hb dL_law_448 rfl (lv_at hl 0 rfl) ?_
    refine lv_iconst (v := nI 2) hx hb dL_law_449 (by decide) ?_
    refine zv_iadd hx hb (v := nI (i + 2)) dL_law_450 (nI_add _ _) ?_
    refine zl_sld hx hb hX hbl hbA hS (show i + 2 < L by omega) (by omega) (v := (nI j2)) hx2 dL_law_451 ?_
    refine zc_wl (va_runV (C := RX5) (As := [.int (nI j1), .int (nI j2)]) (rest := []) ⟨hx, hb, hml, hown, hts⟩ (c_X5_lose l D Y A B σ hn h r0 r1 r2 r3 r4 wt wn j1 j2 kσ kr khn (by omega) (by omega)) (cwV 2 hts gL_law_X5_lose rfl rfl rfl (by decide +kernel) ⟨Nat.le_of_ble_eq_true rfl, Nat.le_of_ble_eq_true rfl⟩) ⟨zBw_blind, va_recv hK (zP_left hP) (ci := 5) (q0 := 0) rfl rfl, zp_w (zP_left hP) (zD_left hD) hK hN⟩ rfl rfl hl.1 rfl (lv_room (Nat.le_of_ble_eq_true rfl)) dL_law_452 ⟨Nat.le_of_ble_eq_true rfl, Nat.le_of_ble_eq_true rfl⟩).run hP hD hS (CX_dd (CX_recD (zD_self (zD_left hD)))) (fun H locs hP hD hS => ?_)
    refine lv_aload_n hx hb dL_law_455 rfl (lv_at hl 3 rfl) ?_
    refine lv_aload_n hx hb dL_law_456 rfl (lv_at hl 1 rfl) ?_
    refine lv_iload_n hx hb dL_law_457 rfl (lv_at hl 0 rfl) ?_
    refine lv_iconst (v := nI 1) hx hb dL_law_458 (by decide) ?_
    refine zv_iadd hx hb (v := nI (i + 1)) dL_law_459 (nI_add _ _) ?_
    refine zl_sld hx hb hX hbl hbA hS (show i + 1 < L by omega) (by omega) (v := (nI j1)) hx1 dL_law_460 ?_
    refine lv_aload_n hx hb dL_law_461 rfl (lv_at hl 1 rfl) ?_
    refine lv_iload_n hx hb dL_law_462 rfl (lv_at hl 0 rfl) ?_
    refine lv_iconst (v := nI 2) hx hb dL_law_463 (by decide) ?_
    refine zv_iadd hx hb (v := nI (i + 2)) dL_law_464 (nI_add _ _) ?_
    refine zl_sld hx hb hX hbl hbA hS (show i + 2 < L by omega) (by omega) (v := (nI j2)) hx2 dL_law_465 ?_
    refine zc_wr (va_runV (C := RX6) (As := [.int (nI j1), .int (nI j2)]) (rest := [.int (nI (zL (σ 7) j1))]) ⟨hx, hb, hml, hown, hts⟩ (c_X6_lose l D Y M σ hf hn wt wn sy gp i0 i1 i2 i3 fo de j1 j2 kσ ksy kgp khn (by omega) (by omega)) (cwV 2 hts gL_law_X6_lose rfl rfl rfl (by decide +kernel) ⟨Nat.le_of_ble_eq_true rfl, Nat.le_of_ble_eq_true rfl⟩) ⟨zBw_blind, va_recv hK (zP_right hP) (ci := 6) (q0 := 0) rfl rfl, zp_w (zP_right hP) (zD_right hD) hK hN⟩ rfl rfl hl.1 rfl (lv_room (Nat.le_of_ble_eq_true rfl)) dL_law_466 ⟨Nat.le_of_ble_eq_true rfl, Nat.le_of_ble_eq_true rfl⟩).run hP hD hS (MX_dd ((zD_self (zD_right hD)))) (fun H locs hP hD hS => ?_)
    refine lv_icmp_eq (tgt := 808) hx hb dL_law_469 (by decide) (fun _ => ?_) (fun h9 => absurd (rfl) h9)
    exact kk (recB B hn) (losS σ j1 j2) (recN hn) (recH h hn σ) (ag0 (losS σ j1 j2) r0) (ag1 (losS σ j1 j2) r1) (ag2 (losS σ j1 j2) r2) (ag3 (losS σ j1 j2) r2 r3) (ag4 (losS σ j1 j2) r2 r4) wt wn (recF hf hn σ) sy gp i0 i1 i2 i3 fo de (inv_same hI kτ (los_7 kM (by omega)) rfl (los_g σ j1 j2)) H locs hP hD hS ls hl
