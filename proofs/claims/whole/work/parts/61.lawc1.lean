set_option maxHeartbeats 4000000 in
set_option maxRecDepth 100000 in
theorem law_0 {p : Program} {e : Env} {s : State} {m : MethodId} {below : List Frame} {meth : Method} {c : Code} (l : Launch) {b L : Nat} {xs : Nat → Int32} (hL : L ≤ 1536) (C0 : lw_At p s m meth c b L xs) {D : va_G} {Y : Nat → ClassId} (hK : va_K D vwCl (zT Y) s) (hN : zNw s) {A M : Nat → Nat} {i : Nat} (hi : i + 3 ≤ L) (kk : zGo p l e s m below meth c b D Y A M i 808) : zGo p l e s m below meth c b D Y A M i 168 := by
  intro B σ hn h r0 r1 r2 r3 r4 wt wn hf sy gp i0 i1 i2 i3 fo de hI H locs hP hD hS ls hl
  obtain ⟨hx, hb, hr, hml, hown9, hts0, hX, hbl, hlocks, hgv⟩ := id C0
  have hown : s.vm.findClass RL = some m.cls := hown9
  have hts : ∀ w ∈ wsL_law, w.before #[Value.ref b] s = true := fun w hw => hts0 w (wsL_law_in w hw)
  have hbA : ¬ (fun q : Nat => s.heap.size ≤ q) b := Nat.not_le.mpr hbl
  obtain ⟨kσ, kr, khn, ksy, kgp, kM, kwt, kwn, kh, kf⟩ := id hI
  obtain ⟨n3, n12, d1, d3, dn, b4, b10, gl, lm, sn, wl, wnz⟩ := id kσ
  obtain ⟨x1, hx1⟩ : ∃ x, xs (i + 1) = x := ⟨_, rfl⟩
  obtain ⟨x2, hx2⟩ : ∃ x, xs (i + 2) = x := ⟨_, rfl⟩
  by_cases hbad : ¬ (3 ≤ (x1).toInt ∧ (x1).toInt ≤ 12 ∧ 1 ≤ (x2).toInt ∧ (x2).toInt ≤ 3 ∧ (x2).toInt < (x1).toInt)
  · refine lv_aload_n hx hb dL_law_168 rfl (lv_at hl 2 rfl) ?_
    refine lv_aload_n hx hb dL_law_169 rfl (lv_at hl 1 rfl) ?_
    refine lv_iload_n hx hb dL_law_170 rfl (lv_at hl 0 rfl) ?_
    refine lv_iconst (v := nI 1) hx hb dL_law_171 (by decide) ?_
    refine zv_iadd hx hb (v := nI (i + 1)) dL_law_172 (nI_add _ _) ?_
    refine zl_sld hx hb hX hbl hbA hS (show i + 1 < L by omega) (by omega) (v := (x1)) hx1 dL_law_173 ?_
    refine lv_aload_n hx hb dL_law_174 rfl (lv_at hl 1 rfl) ?_
    refine lv_iload_n hx hb dL_law_175 rfl (lv_at hl 0 rfl) ?_
    refine lv_iconst (v := nI 2) hx hb dL_law_176 (by decide) ?_
    refine zv_iadd hx hb (v := nI (i + 2)) dL_law_177 (nI_add _ _) ?_
    refine zl_sld hx hb hX hbl hbA hS (show i + 2 < L by omega) (by omega) (v := (x2)) hx2 dL_law_178 ?_
    refine zc_r (va_runV (C := RX5) (As := [.int (x1), .int (x2)]) (rest := []) ⟨hx, hb, hml, hown, hts⟩ (c_X5_setOuter_bad l D Y A B σ hn h r0 r1 r2 r3 r4 wt wn x1 x2 kσ kr hbad) (cwV 2 hts gL_law_X5_setOuter rfl rfl rfl (by decide +kernel) ⟨Nat.le_of_ble_eq_true rfl, Nat.le_of_ble_eq_true rfl⟩) ⟨zB_blind, va_recv hK (zP_left hP) (ci := 5) (q0 := 0) rfl rfl, zp_r (zP_left hP) hK hN⟩ rfl rfl hl.1 rfl (lv_room (Nat.le_of_ble_eq_true rfl)) dL_law_179 ⟨Nat.le_of_ble_eq_true rfl, Nat.le_of_ble_eq_true rfl⟩).run ?_
    refine lv_aload_n hx hb dL_law_182 rfl (lv_at hl 3 rfl) ?_
    refine lv_aload_n hx hb dL_law_183 rfl (lv_at hl 1 rfl) ?_
    refine lv_iload_n hx hb dL_law_184 rfl (lv_at hl 0 rfl) ?_
    refine lv_iconst (v := nI 1) hx hb dL_law_185 (by decide) ?_
    refine zv_iadd hx hb (v := nI (i + 1)) dL_law_186 (nI_add _ _) ?_
    refine zl_sld hx hb hX hbl hbA hS (show i + 1 < L by omega) (by omega) (v := (x1)) hx1 dL_law_187 ?_
    refine lv_aload_n hx hb dL_law_188 rfl (lv_at hl 1 rfl) ?_
    refine lv_iload_n hx hb dL_law_189 rfl (lv_at hl 0 rfl) ?_
    refine lv_iconst (v := nI 2) hx hb dL_law_190 (by decide) ?_
    refine zv_iadd hx hb (v := nI (i + 2)) dL_law_191 (nI_add _ _) ?_
    refine zl_sld hx hb hX hbl hbA hS (show i + 2 < L by omega) (by omega) (v := (x2)) hx2 dL_law_192 ?_
    refine zc_r (va_runV (C := RX6) (As := [.int (x1), .int (x2)]) (rest := [.int (-1001)]) ⟨hx, hb, hml, hown, hts⟩ (c_X6_setOuter_bad l D Y M σ hf hn wt wn sy gp i0 i1 i2 i3 fo de x1 x2 kσ ksy kgp hbad) (cwV 2 hts gL_law_X6_setOuter rfl rfl rfl (by decide +kernel) ⟨Nat.le_of_ble_eq_true rfl, Nat.le_of_ble_eq_true rfl⟩) ⟨zB_blind, va_recv hK (zP_right hP) (ci := 6) (q0 := 0) rfl rfl, zp_r (zP_right hP) hK hN⟩ rfl rfl hl.1 rfl (lv_room (Nat.le_of_ble_eq_true rfl)) dL_law_193 ⟨Nat.le_of_ble_eq_true rfl, Nat.le_of_ble_eq_true rfl⟩).run ?_
    refine lv_icmp_eq (tgt := 808) hx hb dL_law_196 (by decide) (fun _ => ?_) (fun h9 => absurd (rfl) h9)
    exact kk B σ hn h r0 r1 r2 r3 r4 wt wn hf sy gp i0 i1 i2 i3 fo de (hI) H locs hP hD hS ls hl
  · obtain ⟨j1, rfl, hj1⟩ := zNat9 x1 (by omega)
    have e1 := zt_n hj1
    obtain ⟨j2, rfl, hj2⟩ := zNat9 x2 (by omega)
    have e2 := zt_n hj2
    have kτ := zWF_out kσ (i := j1) (k := j2) (by omega) (by omega) (by omega) (by omega) (by omega)
    refine lv_aload_n hx hb dL_law_168 rfl (lv_at hl 2 rfl) ?_
    refine lv_aload_n hx hb dL_law_169 rfl (lv_at hl 1 rfl) ?_
    refine lv_iload_n hx hb dL_law_170 rfl (lv_at hl 0 rfl) ?_
    refine lv_iconst (v := nI 1) hx hb dL_law_171 (by decide) ?_
    refine zv_iadd hx hb (v := nI (i + 1)) dL_law_172 (nI_add _ _) ?_
    refine zl_sld hx hb hX hbl hbA hS (show i + 1 < L by omega) (by omega) (v := (nI j1)) hx1 dL_law_173 ?_
    refine lv_aload_n hx hb dL_law_174 rfl (lv_at hl 1 rfl) ?_
    refine lv_iload_n hx hb dL_law_175 rfl (lv_at hl 0 rfl) ?_
    refine lv_iconst (v := nI 2) hx hb dL_law_176 (by decide) ?_
    refine zv_iadd hx hb (v := nI (i + 2)) dL_law_177 (nI_add _ _) ?_
    refine zl_sld hx hb hX hbl hbA hS (show i + 2 < L by omega) (by omega) (v := (nI j2)) hx2 dL_law_178 ?_
    refine zc_wl (va_runV (C := RX5) (As := [.int (nI j1), .int (nI j2)]) (rest := []) ⟨hx, hb, hml, hown, hts⟩ (c_X5_setOuter l D Y A B σ hn h r0 r1 r2 r3 r4 wt wn j1 j2 kσ kr khn (by omega) (by omega) (by omega) (by omega) (by omega)) (cwV 2 hts gL_law_X5_setOuter rfl rfl rfl (by decide +kernel) ⟨Nat.le_of_ble_eq_true rfl, Nat.le_of_ble_eq_true rfl⟩) ⟨zBw_blind, va_recv hK (zP_left hP) (ci := 5) (q0 := 0) rfl rfl, zp_w (zP_left hP) (zD_left hD) hK hN⟩ rfl rfl hl.1 rfl (lv_room (Nat.le_of_ble_eq_true rfl)) dL_law_179 ⟨Nat.le_of_ble_eq_true rfl, Nat.le_of_ble_eq_true rfl⟩).run hP hD hS (CX_dd (CX_recD (zD_self (zD_left hD)))) (fun H locs hP hD hS => ?_)
    refine lv_aload_n hx hb dL_law_182 rfl (lv_at hl 3 rfl) ?_
    refine lv_aload_n hx hb dL_law_183 rfl (lv_at hl 1 rfl) ?_
    refine lv_iload_n hx hb dL_law_184 rfl (lv_at hl 0 rfl) ?_
    refine lv_iconst (v := nI 1) hx hb dL_law_185 (by decide) ?_
    refine zv_iadd hx hb (v := nI (i + 1)) dL_law_186 (nI_add _ _) ?_
    refine zl_sld hx hb hX hbl hbA hS (show i + 1 < L by omega) (by omega) (v := (nI j1)) hx1 dL_law_187 ?_
    refine lv_aload_n hx hb dL_law_188 rfl (lv_at hl 1 rfl) ?_
    refine lv_iload_n hx hb dL_law_189 rfl (lv_at hl 0 rfl) ?_
    refine lv_iconst (v := nI 2) hx hb dL_law_190 (by decide) ?_
    refine zv_iadd hx hb (v := nI (i + 2)) dL_law_191 (nI_add _ _) ?_
    refine zl_sld hx hb hX hbl hbA hS (show i + 2 < L by omega) (by omega) (v := (nI j2)) hx2 dL_law_192 ?_
    refine zc_wr (va_runV (C := RX6) (As := [.int (nI j1), .int (nI j2)]) (rest := [.int (nI (10 * σ 0 + σ 1))]) ⟨hx, hb, hml, hown, hts⟩ (c_X6_setOuter l D Y M σ hf hn wt wn sy gp i0 i1 i2 i3 fo de j1 j2 kσ ksy kgp khn (by omega) (by omega) (by omega) (by omega) (by omega)) (cwV 2 hts gL_law_X6_setOuter rfl rfl rfl (by decide +kernel) ⟨Nat.le_of_ble_eq_true rfl, Nat.le_of_ble_eq_true rfl⟩) ⟨zBw_blind, va_recv hK (zP_right hP) (ci := 6) (q0 := 0) rfl rfl, zp_w (zP_right hP) (zD_right hD) hK hN⟩ rfl rfl hl.1 rfl (lv_room (Nat.le_of_ble_eq_true rfl)) dL_law_193 ⟨Nat.le_of_ble_eq_true rfl, Nat.le_of_ble_eq_true rfl⟩).run hP hD hS (MX_dd ((zD_self (zD_right hD)))) (fun H locs hP hD hS => ?_)
    refine lv_icmp_eq (tgt := 808) hx hb dL_law_196 (by decide) (fun _ => ?_) (fun h9 => absurd (rfl) h9)
    exact kk (recB B hn) (outS σ j1 j2) (recN hn) (recH h hn σ) (ag0 (outS σ j1 j2) r0) (ag1 (outS σ j1 j2) r1) (ag2 (outS σ j1 j2) r2) (ag3 (outS σ j1 j2) r2 r3) (ag4 (outS σ j1 j2) r2 r4) wt wn (recF hf hn σ) sy gp i0 i1 i2 i3 fo de (inv_same hI kτ (Nat.two_pow_pos _) rfl (out_g σ j1 j2)) H locs hP hD hS ls hl
set_option maxHeartbeats 4000000 in
set_option maxRecDepth 100000 in
theorem law_1 {p : Program} {e : Env} {s : State} {m : MethodId} {below : List Frame} {meth : Method} {c : Code} (l : Launch) {b L : Nat} {xs : Nat → Int32} (hL : L ≤ 1536) (C0 : lw_At p s m meth c b L xs) {D : va_G} {Y : Nat → ClassId} (hK : va_K D vwCl (zT Y) s) (hN : zNw s) {A M : Nat → Nat} {i : Nat} (hi : i + 3 ≤ L) (kk : zGo p l e s m below meth c b D Y A M i 808) : zGo p l e s m below meth c b D Y A M i 201 := by
  intro B σ hn h r0 r1 r2 r3 r4 wt wn hf sy gp i0 i1 i2 i3 fo de hI H locs hP hD hS ls hl
  obtain ⟨hx, hb, hr, hml, hown9, hts0, hX, hbl, hlocks, hgv⟩ := id C0
  have hown : s.vm.findClass RL = some m.cls := hown9
  have hts : ∀ w ∈ wsL_law, w.before #[Value.ref b] s = true := fun w hw => hts0 w (wsL_law_in w hw)
  have hbA : ¬ (fun q : Nat => s.heap.size ≤ q) b := Nat.not_le.mpr hbl
  obtain ⟨kσ, kr, khn, ksy, kgp, kM, kwt, kwn, kh, kf⟩ := id hI
  obtain ⟨n3, n12, d1, d3, dn, b4, b10, gl, lm, sn, wl, wnz⟩ := id kσ
  obtain ⟨x1, hx1⟩ : ∃ x, xs (i + 1) = x := ⟨_, rfl⟩
  by_cases hbad : ¬ (1 ≤ (x1).toInt ∧ (x1).toInt ≤ 1023)
  · refine lv_aload_n hx hb dL_law_201 rfl (lv_at hl 2 rfl) ?_
    refine lv_aload_n hx hb dL_law_202 rfl (lv_at hl 1 rfl) ?_
    refine lv_iload_n hx hb dL_law_203 rfl (lv_at hl 0 rfl) ?_
    refine lv_iconst (v := nI 1) hx hb dL_law_204 (by decide) ?_
    refine zv_iadd hx hb (v := nI (i + 1)) dL_law_205 (nI_add _ _) ?_
    refine zl_sld hx hb hX hbl hbA hS (show i + 1 < L by omega) (by omega) (v := (x1)) hx1 dL_law_206 ?_
    refine zc_r (va_runV (C := RX5) (As := [.int (x1)]) (rest := []) ⟨hx, hb, hml, hown, hts⟩ (c_X5_generator_bad l D Y A B σ hn h r0 r1 r2 r3 r4 wt wn x1 kσ kr hbad) (cwV 1 hts gL_law_X5_generator rfl rfl rfl (by decide +kernel) ⟨Nat.le_of_ble_eq_true rfl, Nat.le_of_ble_eq_true rfl⟩) ⟨zB_blind, va_recv hK (zP_left hP) (ci := 5) (q0 := 0) rfl rfl, zp_r (zP_left hP) hK hN⟩ rfl rfl hl.1 rfl (lv_room (Nat.le_of_ble_eq_true rfl)) dL_law_207 ⟨Nat.le_of_ble_eq_true rfl, Nat.le_of_ble_eq_true rfl⟩).run ?_
    refine lv_aload_n hx hb dL_law_210 rfl (lv_at hl 3 rfl) ?_
    refine lv_aload_n hx hb dL_law_211 rfl (lv_at hl 1 rfl) ?_
    refine lv_iload_n hx hb dL_law_212 rfl (lv_at hl 0 rfl) ?_
    refine lv_iconst (v := nI 1) hx hb dL_law_213 (by decide) ?_
    refine zv_iadd hx hb (v := nI (i + 1)) dL_law_214 (nI_add _ _) ?_
    refine zl_sld hx hb hX hbl hbA hS (show i + 1 < L by omega) (by omega) (v := (x1)) hx1 dL_law_215 ?_
    refine zc_r (va_runV (C := RX6) (As := [.int (x1)]) (rest := [.int (-1001)]) ⟨hx, hb, hml, hown, hts⟩ (c_X6_generator_bad l D Y M σ hf hn wt wn sy gp i0 i1 i2 i3 fo de x1 kσ ksy kgp hbad) (cwV 1 hts gL_law_X6_generator rfl rfl rfl (by decide +kernel) ⟨Nat.le_of_ble_eq_true rfl, Nat.le_of_ble_eq_true rfl⟩) ⟨zB_blind, va_recv hK (zP_right hP) (ci := 6) (q0 := 0) rfl rfl, zp_r (zP_right hP) hK hN⟩ rfl rfl hl.1 rfl (lv_room (Nat.le_of_ble_eq_true rfl)) dL_law_216 ⟨Nat.le_of_ble_eq_true rfl, Nat.le_of_ble_eq_true rfl⟩).run ?_
    refine lv_icmp_eq (tgt := 808) hx hb dL_law_219 (by decide) (fun _ => ?_) (fun h9 => absurd (rfl) h9)
    exact kk B σ hn h r0 r1 r2 r3 r4 wt wn hf sy gp i0 i1 i2 i3 fo de (hI) H locs hP hD hS ls hl
  · obtain ⟨j1, rfl, hj1⟩ := zNat9 x1 (by omega)
    have e1 := zt_n hj1
    by_cases hw4 : wn = 4
    · refine lv_aload_n hx hb dL_law_201 rfl (lv_at hl 2 rfl) ?_
      refine lv_aload_n hx hb dL_law_202 rfl (lv_at hl 1 rfl) ?_
      refine lv_iload_n hx hb dL_law_203 rfl (lv_at hl 0 rfl) ?_
      refine lv_iconst (v := nI 1) hx hb dL_law_204 (by decide) ?_
      refine zv_iadd hx hb (v := nI (i + 1)) dL_law_205 (nI_add _ _) ?_
      refine zl_sld hx hb hX hbl hbA hS (show i + 1 < L by omega) (by omega) (v := (nI j1)) hx1 dL_law_206 ?_
      refine zc_r (va_runV (C := RX5) (As := [.int (nI j1)]) (rest := []) ⟨hx, hb, hml, hown, hts⟩ (c_X5_generator_full l D Y A B σ hn h r0 r1 r2 r3 r4 wt wn j1 kσ kr (by omega) (by omega) (by omega)) (cwV 1 hts gL_law_X5_generator rfl rfl rfl (by decide +kernel) ⟨Nat.le_of_ble_eq_true rfl, Nat.le_of_ble_eq_true rfl⟩) ⟨zB_blind, va_recv hK (zP_left hP) (ci := 5) (q0 := 0) rfl rfl, zp_r (zP_left hP) hK hN⟩ rfl rfl hl.1 rfl (lv_room (Nat.le_of_ble_eq_true rfl)) dL_law_207 ⟨Nat.le_of_ble_eq_true rfl, Nat.le_of_ble_eq_true rfl⟩).run ?_
      refine lv_aload_n hx hb dL_law_210 rfl (lv_at hl 3 rfl) ?_
      refine lv_aload_n hx hb dL_law_211 rfl (lv_at hl 1 rfl) ?_
      refine lv_iload_n hx hb dL_law_212 rfl (lv_at hl 0 rfl) ?_
      refine lv_iconst (v := nI 1) hx hb dL_law_213 (by decide) ?_
      refine zv_iadd hx hb (v := nI (i + 1)) dL_law_214 (nI_add _ _) ?_
      refine zl_sld hx hb hX hbl hbA hS (show i + 1 < L by omega) (by omega) (v := (nI j1)) hx1 dL_law_215 ?_
      refine zc_r (va_runV (C := RX6) (As := [.int (nI j1)]) (rest := [.int (-1003)]) ⟨hx, hb, hml, hown, hts⟩ (c_X6_generator_full l D Y M σ hf hn wt wn sy gp i0 i1 i2 i3 fo de j1 kσ ksy kgp (by omega) (by omega) (by omega)) (cwV 1 hts gL_law_X6_generator rfl rfl rfl (by decide +kernel) ⟨Nat.le_of_ble_eq_true rfl, Nat.le_of_ble_eq_true rfl⟩) ⟨zB_blind, va_recv hK (zP_right hP) (ci := 6) (q0 := 0) rfl rfl, zp_r (zP_right hP) hK hN⟩ rfl rfl hl.1 rfl (lv_room (Nat.le_of_ble_eq_true rfl)) dL_law_216 ⟨Nat.le_of_ble_eq_true rfl, Nat.le_of_ble_eq_true rfl⟩).run ?_
      refine lv_icmp_eq (tgt := 808) hx hb dL_law_219 (by decide) (fun _ => ?_) (fun h9 => absurd (rfl) h9)
      exact kk B σ hn h r0 r1 r2 r3 r4 wt wn hf sy gp i0 i1 i2 i3 fo de (hI) H locs hP hD hS ls hl
    · refine lv_aload_n hx hb dL_law_201 rfl (lv_at hl 2 rfl) ?_
      refine lv_aload_n hx hb dL_law_202 rfl (lv_at hl 1 rfl) ?_
      refine lv_iload_n hx hb dL_law_203 rfl (lv_at hl 0 rfl) ?_
      refine lv_iconst (v := nI 1) hx hb dL_law_204 (by decide) ?_
      refine zv_iadd hx hb (v := nI (i + 1)) dL_law_205 (nI_add _ _) ?_
      refine zl_sld hx hb hX hbl hbA hS (show i + 1 < L by omega) (by omega) (v := (nI j1)) hx1 dL_law_206 ?_
      refine zc_wl (va_runV (C := RX5) (As := [.int (nI j1)]) (rest := []) ⟨hx, hb, hml, hown, hts⟩ (c_X5_generator l D Y A B σ hn h r0 r1 r2 r3 r4 wt wn j1 kσ kr (by omega) (by omega) (by omega)) (cwV 1 hts gL_law_X5_generator rfl rfl rfl (by decide +kernel) ⟨Nat.le_of_ble_eq_true rfl, Nat.le_of_ble_eq_true rfl⟩) ⟨zBw_blind, va_recv hK (zP_left hP) (ci := 5) (q0 := 0) rfl rfl, zp_w (zP_left hP) (zD_left hD) hK hN⟩ rfl rfl hl.1 rfl (lv_room (Nat.le_of_ble_eq_true rfl)) dL_law_207 ⟨Nat.le_of_ble_eq_true rfl, Nat.le_of_ble_eq_true rfl⟩).run hP hD hS (CX_dd ((zD_self (zD_left hD)))) (fun H locs hP hD hS => ?_)
      refine lv_aload_n hx hb dL_law_210 rfl (lv_at hl 3 rfl) ?_
      refine lv_aload_n hx hb dL_law_211 rfl (lv_at hl 1 rfl) ?_
      refine lv_iload_n hx hb dL_law_212 rfl (lv_at hl 0 rfl) ?_
      refine lv_iconst (v := nI 1) hx hb dL_law_213 (by decide) ?_
      refine zv_iadd hx hb (v := nI (i + 1)) dL_law_214 (nI_add _ _) ?_
      refine zl_sld hx hb hX hbl hbA hS (show i + 1 < L by omega) (by omega) (v := (nI j1)) hx1 dL_law_215 ?_
      refine zc_wr (va_runV (C := RX6) (As := [.int (nI j1)]) (rest := [.int (nI (wn + 1))]) ⟨hx, hb, hml, hown, hts⟩ (c_X6_generator l D Y M σ hf hn wt wn sy gp i0 i1 i2 i3 fo de j1 kσ ksy kgp (by omega) (by omega) (by omega)) (cwV 1 hts gL_law_X6_generator rfl rfl rfl (by decide +kernel) ⟨Nat.le_of_ble_eq_true rfl, Nat.le_of_ble_eq_true rfl⟩) ⟨zBw_blind, va_recv hK (zP_right hP) (ci := 6) (q0 := 0) rfl rfl, zp_w (zP_right hP) (zD_right hD) hK hN⟩ rfl rfl hl.1 rfl (lv_room (Nat.le_of_ble_eq_true rfl)) dL_law_216 ⟨Nat.le_of_ble_eq_true rfl, Nat.le_of_ble_eq_true rfl⟩).run hP hD hS (MX_dd ((zD_self (zD_right hD)))) (fun H locs hP hD hS => ?_)
      refine lv_icmp_eq (tgt := 808) hx hb dL_law_219 (by decide) (fun _ => ?_) (fun h9 => absurd (rfl) h9)
      exact kk B σ hn h r0 r1 r2 r3 r4 (va_up wt wn j1) (wn + 1) hf sy gp i0 i1 i2 i3 fo de (inv_wait hI (fun j hj => by unfold va_up; split; omega; exact kwt j hj) (by omega)) H locs hP hD hS ls hl
set_option maxHeartbeats 4000000 in
set_option maxRecDepth 100000 in
theorem law_2 {p : Program} {e : Env} {s : State} {m : MethodId} {below : List Frame} {meth : Method} {c : Code} (l : Launch) {b L : Nat} {xs : Nat → Int32} (hL : L ≤ 1536) (C0 : lw_At p s m meth c b L xs) {D : va_G} {Y : Nat → ClassId} (hK : va_K D vwCl (zT Y) s) (hN : zNw s) {A M : Nat → Nat} {i : Nat} (hi : i + 3 ≤ L) (kk : zGo p l e s m below meth c b D Y A M i 808) : zGo p l e s m below meth c b D Y A M i 224 := by
  intro B σ hn h r0 r1 r2 r3 r4 wt wn hf sy gp i0 i1 i2 i3 fo de hI H locs hP hD hS ls hl
  obtain ⟨hx, hb, hr, hml, hown9, hts0, hX, hbl, hlocks, hgv⟩ := id C0
  have hown : s.vm.findClass RL = some m.cls := hown9
  have hts : ∀ w ∈ wsL_law, w.before #[Value.ref b] s = true := fun w hw => hts0 w (wsL_law_in w hw)
  have hbA : ¬ (fun q : Nat => s.heap.size ≤ q) b := Nat.not_le.mpr hbl
  obtain ⟨kσ, kr, khn, ksy, kgp, kM, kwt, kwn, kh, kf⟩ := id hI
  obtain ⟨n3, n12, d1, d3, dn, b4, b10, gl, lm, sn, wl, wnz⟩ := id kσ
  refine lv_aload_n hx hb dL_law_224 rfl (lv_at hl 2 rfl) ?_
  refine zc_wl (va_runV (C := RX5) (As := []) (rest := []) ⟨hx, hb, hml, hown, hts⟩ (c_X5_clearGenerators l D Y A B σ hn h r0 r1 r2 r3 r4 wt wn  kσ kr) (cwV 0 hts gL_law_X5_clearGenerators rfl rfl rfl (by decide +kernel) ⟨Nat.le_of_ble_eq_true rfl, Nat.le_of_ble_eq_true rfl⟩) ⟨zBw_blind, va_recv hK (zP_left hP) (ci := 5) (q0 := 0) rfl rfl, zp_w (zP_left hP) (zD_left hD) hK hN⟩ rfl rfl hl.1 rfl (lv_room (Nat.le_of_ble_eq_true rfl)) dL_law_225 ⟨Nat.le_of_ble_eq_true rfl, Nat.le_of_ble_eq_true rfl⟩).run hP hD hS (CX_dd ((zD_self (zD_left hD)))) (fun H locs hP hD hS => ?_)
  refine lv_aload_n hx hb dL_law_228 rfl (lv_at hl 3 rfl) ?_
  refine zc_wr (va_runV (C := RX6) (As := []) (rest := [.int (nI wn)]) ⟨hx, hb, hml, hown, hts⟩ (c_X6_clearGenerators l D Y M σ hf hn wt wn sy gp i0 i1 i2 i3 fo de  kσ ksy kgp) (cwV 0 hts gL_law_X6_clearGenerators rfl rfl rfl (by decide +kernel) ⟨Nat.le_of_ble_eq_true rfl, Nat.le_of_ble_eq_true rfl⟩) ⟨zBw_blind, va_recv hK (zP_right hP) (ci := 6) (q0 := 0) rfl rfl, zp_w (zP_right hP) (zD_right hD) hK hN⟩ rfl rfl hl.1 rfl (lv_room (Nat.le_of_ble_eq_true rfl)) dL_law_229 ⟨Nat.le_of_ble_eq_true rfl, Nat.le_of_ble_eq_true rfl⟩).run hP hD hS (MX_dd ((zD_self (zD_right hD)))) (fun H locs hP hD hS => ?_)
  refine lv_icmp_eq (tgt := 808) hx hb dL_law_232 (by decide) (fun _ => ?_) (fun h9 => absurd (rfl) h9)
  exact kk B σ hn h r0 r1 r2 r3 r4 wt 0 hf sy gp i0 i1 i2 i3 fo de (inv_wait hI kwt (Nat.zero_le 4)) H locs hP hD hS ls hl
set_option maxHeartbeats 4000000 in
set_option maxRecDepth 100000 in
theorem law_3 {p : Program} {e : Env} {s : State} {m : MethodId} {below : List Frame} {meth : Method} {c : Code} (l : Launch) {b L : Nat} {xs : Nat → Int32} (hL : L ≤ 1536) (C0 : lw_At p s m meth c b L xs) {D : va_G} {Y : Nat → ClassId} (hK : va_K D vwCl (zT Y) s) (hN : zNw s) {A M : Nat → Nat} {i : Nat} (hi : i + 3 ≤ L) (kk : zGo p l e s m below meth c b D Y A M i 808) : zGo p l e s m below meth c b D Y A M i 237 := by
  intro B σ hn h r0 r1 r2 r3 r4 wt wn hf sy gp i0 i1 i2 i3 fo de hI H locs hP hD hS ls hl
  obtain ⟨hx, hb, hr, hml, hown9, hts0, hX, hbl, hlocks, hgv⟩ := id C0
  have hown : s.vm.findClass RL = some m.cls := hown9
  have hts : ∀ w ∈ wsL_law, w.before #[Value.ref b] s = true := fun w hw => hts0 w (wsL_law_in w hw)
  have hbA : ¬ (fun q : Nat => s.heap.size ≤ q) b := Nat.not_le.mpr hbl
  obtain ⟨kσ, kr, khn, ksy, kgp, kM, kwt, kwn, kh, kf⟩ := id hI
  obtain ⟨n3, n12, d1, d3, dn, b4, b10, gl, lm, sn, wl, wnz⟩ := id kσ
  obtain ⟨x1, hx1⟩ : ∃ x, xs (i + 1) = x := ⟨_, rfl⟩
  by_cases hbad : ¬ (4 ≤ (x1).toInt ∧ (x1).toInt ≤ 10)
  · refine lv_aload_n hx hb dL_law_237 rfl (lv_at hl 2 rfl) ?_
    refine lv_aload_n hx hb dL_law_238 rfl (lv_at hl 1 rfl) ?_
    refine lv_iload_n hx hb dL_law_239 rfl (lv_at hl 0 rfl) ?_
    refine lv_iconst (v := nI 1) hx hb dL_law_240 (by decide) ?_
    refine zv_iadd hx hb (v := nI (i + 1)) dL_law_241 (nI_add _ _) ?_
    refine zl_sld hx hb hX hbl hbA hS (show i + 1 < L by omega) (by omega) (v := (x1)) hx1 dL_law_242 ?_
    refine zc_r (va_runV (C := RX5) (As := [.int (x1)]) (rest := []) ⟨hx, hb, hml, hown, hts⟩ (c_X5_setInner_bad l D Y A B σ hn h r0 r1 r2 r3 r4 wt wn x1 kσ kr hbad) (cwV 1 hts gL_law_X5_setInner rfl rfl rfl (by decide +kernel) ⟨Nat.le_of_ble_eq_true rfl, Nat.le_of_ble_eq_true rfl⟩) ⟨zB_blind, va_recv hK (zP_left hP) (ci := 5) (q0 := 0) rfl rfl, zp_r (zP_left hP) hK hN⟩ rfl rfl hl.1 rfl (lv_room (Nat.le_of_ble_eq_true rfl)) dL_law_243 ⟨Nat.le_of_ble_eq_true rfl, Nat.le_of_ble_eq_true rfl⟩).run ?_
    refine lv_aload_n hx hb dL_law_246 rfl (lv_at hl 3 rfl) ?_
    refine lv_aload_n hx hb dL_law_247 rfl (lv_at hl 1 rfl) ?_
    refine lv_iload_n hx hb dL_law_248 rfl (lv_at hl 0 rfl) ?_
    refine lv_iconst (v := nI 1) hx hb dL_law_249 (by decide) ?_
    refine zv_iadd hx hb (v := nI (i + 1)) dL_law_250 (nI_add _ _) ?_
    refine zl_sld hx hb hX hbl hbA hS (show i + 1 < L by omega) (by omega) (v := (x1)) hx1 dL_law_251 ?_
    refine zc_r (va_runV (C := RX6) (As := [.int (x1)]) (rest := [.int (-1001)]) ⟨hx, hb, hml, hown, hts⟩ (c_X6_setInner_bad l D Y M σ hf hn wt wn sy gp i0 i1 i2 i3 fo de x1 kσ ksy kgp hbad) (cwV 1 hts gL_law_X6_setInner rfl rfl rfl (by decide +kernel) ⟨Nat.le_of_ble_eq_true rfl, Nat.le_of_ble_eq_true rfl⟩) ⟨zB_blind, va_recv hK (zP_right hP) (ci := 6) (q0 := 0) rfl rfl, zp_r (zP_right hP) hK hN⟩ rfl rfl hl.1 rfl (lv_room (Nat.le_of_ble_eq_true rfl)) dL_law_252 ⟨Nat.le_of_ble_eq_true rfl, Nat.le_of_ble_eq_true rfl⟩).run ?_
    refine lv_icmp_eq (tgt := 808) hx hb dL_law_255 (by decide) (fun _ => ?_) (fun h9 => absurd (rfl) h9)
    exact kk B σ hn h r0 r1 r2 r3 r4 wt wn hf sy gp i0 i1 i2 i3 fo de (hI) H locs hP hD hS ls hl
  · obtain ⟨j1, rfl, hj1⟩ := zNat9 x1 (by omega)
    have e1 := zt_n hj1
    by_cases hq : wn = 4 ∧ genOk wt j1 = true
    · obtain ⟨hw4, hok⟩ := hq
      have kτ := zWF_inn (wt := wt) (b := j1) kσ (by omega) (by omega) hok
      refine lv_aload_n hx hb dL_law_237 rfl (lv_at hl 2 rfl) ?_
      refine lv_aload_n hx hb dL_law_238 rfl (lv_at hl 1 rfl) ?_
      refine lv_iload_n hx hb dL_law_239 rfl (lv_at hl 0 rfl) ?_
      refine lv_iconst (v := nI 1) hx hb dL_law_240 (by decide) ?_
      refine zv_iadd hx hb (v := nI (i + 1)) dL_law_241 (nI_add _ _) ?_
      refine zl_sld hx hb hX hbl hbA hS (show i + 1 < L by omega) (by omega) (v := (nI j1)) hx1 dL_law_242 ?_
      refine zc_wl (va_runV (C := RX5) (As := [.int (nI j1)]) (rest := []) ⟨hx, hb, hml, hown, hts⟩ (c_X5_setInner l D Y A B σ hn h r0 r1 r2 r3 r4 wt wn j1 kσ kr khn kwt (by omega) (by omega) (by omega) hok) (cwV 1 hts gL_law_X5_setInner rfl rfl rfl (by decide +kernel) ⟨Nat.le_of_ble_eq_true rfl, Nat.le_of_ble_eq_true rfl⟩) ⟨zBw_blind, va_recv hK (zP_left hP) (ci := 5) (q0 := 0) rfl rfl, zp_w (zP_left hP) (zD_left hD) hK hN⟩ rfl rfl hl.1 rfl (lv_room (Nat.le_of_ble_eq_true rfl)) dL_law_243 ⟨Nat.le_of_ble_eq_true rfl, Nat.le_of_ble_eq_true rfl⟩).run hP hD hS (CX_dd (CX_recD (zD_self (zD_left hD)))) (fun H locs hP hD hS => ?_)
      refine lv_aload_n hx hb dL_law_246 rfl (lv_at hl 3 rfl) ?_
      refine lv_aload_n hx hb dL_law_247 rfl (lv_at hl 1 rfl) ?_
      refine lv_iload_n hx hb dL_law_248 rfl (lv_at hl 0 rfl) ?_
      refine lv_iconst (v := nI 1) hx hb dL_law_249 (by decide) ?_
      refine zv_iadd hx hb (v := nI (i + 1)) dL_law_250 (nI_add _ _) ?_
      refine zl_sld hx hb hX hbl hbA hS (show i + 1 < L by omega) (by omega) (v := (nI j1)) hx1 dL_law_251 ?_
      refine zc_wr (va_runV (C := RX6) (As := [.int (nI j1)]) (rest := [.int (nI (ddS (innS σ wt j1)))]) ⟨hx, hb, hml, hown, hts⟩ (c_X6_setInner l D Y M σ hf hn wt wn sy gp i0 i1 i2 i3 fo de j1 kσ ksy kgp khn kwt (by omega) (by omega) (by omega) hok) (cwV 1 hts gL_law_X6_setInner rfl rfl rfl (by decide +kernel) ⟨Nat.le_of_ble_eq_true rfl, Nat.le_of_ble_eq_true rfl⟩) ⟨zBw_blind, va_recv hK (zP_right hP) (ci := 6) (q0 := 0) rfl rfl, zp_w (zP_right hP) (zD_right hD) hK hN⟩ rfl rfl hl.1 rfl (lv_room (Nat.le_of_ble_eq_true rfl)) dL_law_252 ⟨Nat.le_of_ble_eq_true rfl, Nat.le_of_ble_eq_true rfl⟩).run hP hD hS (MX_dd ((zD_self (zD_right hD)))) (fun H locs hP hD hS => ?_)
      refine lv_icmp_eq (tgt := 808) hx hb dL_law_255 (by decide) (fun _ => ?_) (fun h9 => absurd (rfl) h9)
      exact kk (recB B hn) (innS σ wt j1) (recN hn) (recH h hn σ) (ag0 (innS σ wt j1) r0) (ag1 (innS σ wt j1) r1) (ag2 (innS σ wt j1) r2) (ag3 (innS σ wt j1) r2 r3) (ag4 (innS σ wt j1) r2 r4) wt 0 (recF hf hn σ) (zmx (2 ^ ((innS σ wt j1) 2)) (syS (innS σ wt j1)) sy) (zmx (2 ^ ((innS σ wt j1) 2)) (gpS (innS σ wt j1)) gp) i0 i1 i2 i3 fo de (inv_rec hI kτ (Nat.two_pow_pos _) kwt (Nat.zero_le 4) (fun w9 h9 => zmx_in _ _ h9) (fun w9 h9 => zmx_in _ _ h9)) H locs hP hD hS ls hl
    · refine lv_aload_n hx hb dL_law_237 rfl (lv_at hl 2 rfl) ?_
      refine lv_aload_n hx hb dL_law_238 rfl (lv_at hl 1 rfl) ?_
      refine lv_iload_n hx hb dL_law_239 rfl (lv_at hl 0 rfl) ?_
      refine lv_iconst (v := nI 1) hx hb dL_law_240 (by decide) ?_
      refine zv_iadd hx hb (v := nI (i + 1)) dL_law_241 (nI_add _ _) ?_
      refine zl_sld hx hb hX hbl hbA hS (show i + 1 < L by omega) (by omega) (v := (nI j1)) hx1 dL_law_242 ?_
      refine zc_r (va_runV (C := RX5) (As := [.int (nI j1)]) (rest := []) ⟨hx, hb, hml, hown, hts⟩ (c_X5_setInner_not l D Y A B σ hn h r0 r1 r2 r3 r4 wt wn j1 kσ kr kwt kwn (by omega) (by omega) hq) (cwV 1 hts gL_law_X5_setInner rfl rfl rfl (by decide +kernel) ⟨Nat.le_of_ble_eq_true rfl, Nat.le_of_ble_eq_true rfl⟩) ⟨zB_blind, va_recv hK (zP_left hP) (ci := 5) (q0 := 0) rfl rfl, zp_r (zP_left hP) hK hN⟩ rfl rfl hl.1 rfl (lv_room (Nat.le_of_ble_eq_true rfl)) dL_law_243 ⟨Nat.le_of_ble_eq_true rfl, Nat.le_of_ble_eq_true rfl⟩).run ?_
      refine lv_aload_n hx hb dL_law_246 rfl (lv_at hl 3 rfl) ?_
      refine lv_aload_n hx hb dL_law_247 rfl (lv_at hl 1 rfl) ?_
      refine lv_iload_n hx hb dL_law_248 rfl (lv_at hl 0 rfl) ?_
      refine lv_iconst (v := nI 1) hx hb dL_law_249 (by decide) ?_
      refine zv_iadd hx hb (v := nI (i + 1)) dL_law_250 (nI_add _ _) ?_
      refine zl_sld hx hb hX hbl hbA hS (show i + 1 < L by omega) (by omega) (v := (nI j1)) hx1 dL_law_251 ?_
      refine zc_r (va_runV (C := RX6) (As := [.int (nI j1)]) (rest := [.int (-1002)]) ⟨hx, hb, hml, hown, hts⟩ (c_X6_setInner_not l D Y M σ hf hn wt wn sy gp i0 i1 i2 i3 fo de j1 kσ ksy kgp kwt kwn (by omega) (by omega) hq) (cwV 1 hts gL_law_X6_setInner rfl rfl rfl (by decide +kernel) ⟨Nat.le_of_ble_eq_true rfl, Nat.le_of_ble_eq_true rfl⟩) ⟨zB_blind, va_recv hK (zP_right hP) (ci := 6) (q0 := 0) rfl rfl, zp_r (zP_right hP) hK hN⟩ rfl rfl hl.1 rfl (lv_room (Nat.le_of_ble_eq_true rfl)) dL_law_252 ⟨Nat.le_of_ble_eq_true rfl, Nat.le_of_ble_eq_true rfl⟩).run ?_
      refine lv_icmp_eq (tgt := 808) hx hb dL_law_255 (by decide) (fun _ => ?_) (fun h9 => absurd (rfl) h9)
      exact kk B σ hn h r0 r1 r2 r3 r4 wt wn hf sy gp i0 i1 i2 i3 fo de (hI) H locs hP hD hS ls hl
set_option maxHeartbeats 4000000 in
set_option maxRecDepth 100000 in
theorem law_4 {p : Program} {e : Env} {s : State} {m : MethodId} {below : List Frame} {meth : Method} {c : Code} (l : Launch) {b L : Nat} {xs : Nat → Int32} (hL : L ≤ 1536) (C0 : lw_At p s m meth c b L xs) {D : va_G} {Y : Nat → ClassId} (hK : va_K D vwCl (zT Y) s) (hN : zNw s) {A M : Nat → Nat} {i : Nat} (hi : i + 3 ≤ L) (kk : zGo p l e s m below meth c b D Y A M i 808) : zGo p l e s m below meth c b D Y A M i 260 := by
  intro B σ hn h r0 r1 r2 r3 r4 wt wn hf sy gp i0 i1 i2 i3 fo de hI H locs hP hD hS ls hl
  obtain ⟨hx, hb, hr, hml, hown9, hts0, hX, hbl, hlocks, hgv⟩ := id C0
  have hown : s.vm.findClass RL = some m.cls := hown9
  have hts : ∀ w ∈ wsL_law, w.before #[Value.ref b] s = true := fun w hw => hts0 w (wsL_law_in w hw)
  have hbA : ¬ (fun q : Nat => s.heap.size ≤ q) b := Nat.not_le.mpr hbl
  obtain ⟨kσ, kr, khn, ksy, kgp, kM, kwt, kwn, kh, kf⟩ := id hI
  obtain ⟨n3, n12, d1, d3, dn, b4, b10, gl, lm, sn, wl, wnz⟩ := id kσ
  by_cases hn0 : hn = 0
  · refine lv_aload_n hx hb dL_law_260 rfl (lv_at hl 2 rfl) ?_
    refine zc_r (va_runV (C := RX5) (As := []) (rest := []) ⟨hx, hb, hml, hown, hts⟩ (c_X5_undo_not l D Y A B σ hn h r0 r1 r2 r3 r4 wt wn  kσ kr (by omega)) (cwV 0 hts gL_law_X5_undo rfl rfl rfl (by decide +kernel) ⟨Nat.le_of_ble_eq_true rfl, Nat.le_of_ble_eq_true rfl⟩) ⟨zB_blind, va_recv hK (zP_left hP) (ci := 5) (q0 := 0) rfl rfl, zp_r (zP_left hP) hK hN⟩ rfl rfl hl.1 rfl (lv_room (Nat.le_of_ble_eq_true rfl)) dL_law_261 ⟨Nat.le_of_ble_eq_true rfl, Nat.le_of_ble_eq_true rfl⟩).run ?_
    refine lv_aload_n hx hb dL_law_264 rfl (lv_at hl 3 rfl) ?_
    refine zc_r (va_runV (C := RX6) (As := []) (rest := [.int (-1002)]) ⟨hx, hb, hml, hown, hts⟩ (c_X6_undo_not l D Y M σ hf hn wt wn sy gp i0 i1 i2 i3 fo de  kσ ksy kgp (by omega)) (cwV 0 hts gL_law_X6_undo rfl rfl rfl (by decide +kernel) ⟨Nat.le_of_ble_eq_true rfl, Nat.le_of_ble_eq_true rfl⟩) ⟨zB_blind, va_recv hK (zP_right hP) (ci := 6) (q0 := 0) rfl rfl, zp_r (zP_right hP) hK hN⟩ rfl rfl hl.1 rfl (lv_room (Nat.le_of_ble_eq_true rfl)) dL_law_265 ⟨Nat.le_of_ble_eq_true rfl, Nat.le_of_ble_eq_true rfl⟩).run ?_
    refine lv_icmp_eq (tgt := 808) hx hb dL_law_268 (by decide) (fun _ => ?_) (fun h9 => absurd (rfl) h9)
    exact kk B σ hn h r0 r1 r2 r3 r4 wt wn hf sy gp i0 i1 i2 i3 fo de (hI) H locs hP hD hS ls hl
  · refine lv_aload_n hx hb dL_law_260 rfl (lv_at hl 2 rfl) ?_
    refine zc_wl (va_runV (C := RX5) (As := []) (rest := []) ⟨hx, hb, hml, hown, hts⟩ (c_X5_undo l D Y A B σ hn h r0 r1 r2 r3 r4 wt wn  kσ kr khn (by omega) (kh (hn - 1) (by omega)).1) (cwV 0 hts gL_law_X5_undo rfl rfl rfl (by decide +kernel) ⟨Nat.le_of_ble_eq_true rfl, Nat.le_of_ble_eq_true rfl⟩) ⟨zBw_blind, va_recv hK (zP_left hP) (ci := 5) (q0 := 0) rfl rfl, zp_w (zP_left hP) (zD_left hD) hK hN⟩ rfl rfl hl.1 rfl (lv_room (Nat.le_of_ble_eq_true rfl)) dL_law_261 ⟨Nat.le_of_ble_eq_true rfl, Nat.le_of_ble_eq_true rfl⟩).run hP hD hS (CX_dd ((zD_self (zD_left hD)))) (fun H locs hP hD hS => ?_)
    refine lv_aload_n hx hb dL_law_264 rfl (lv_at hl 3 rfl) ?_
    refine zc_wr (va_runV (C := RX6) (As := []) (rest := [.int (nI (hn - 1))]) ⟨hx, hb, hml, hown, hts⟩ (c_X6_undo l D Y M σ hf hn wt wn sy gp i0 i1 i2 i3 fo de ((h (hn - 1))) kσ ksy kgp khn (by omega) (kf (hn - 1) (by omega)) (kh (hn - 1) (by omega)).1) (cwV 0 hts gL_law_X6_undo rfl rfl rfl (by decide +kernel) ⟨Nat.le_of_ble_eq_true rfl, Nat.le_of_ble_eq_true rfl⟩) ⟨zBw_blind, va_recv hK (zP_right hP) (ci := 6) (q0 := 0) rfl rfl, zp_w (zP_right hP) (zD_right hD) hK hN⟩ rfl rfl hl.1 rfl (lv_room (Nat.le_of_ble_eq_true rfl)) dL_law_265 ⟨Nat.le_of_ble_eq_true rfl, Nat.le_of_ble_eq_true rfl⟩).run hP hD hS (MX_dd ((zD_self (zD_right hD)))) (fun H locs hP hD hS => ?_)
    refine lv_icmp_eq (tgt := 808) hx hb dL_law_268 (by decide) (fun _ => ?_) (fun h9 => absurd (rfl) h9)
    exact kk B (h (hn - 1)) (hn - 1) h (ag0 (h (hn - 1)) r0) (ag1 (h (hn - 1)) r1) (ag2 (h (hn - 1)) r2) (ag3 (h (hn - 1)) r2 r3) (ag4 (h (hn - 1)) r2 r4) wt wn hf (zmx (2 ^ ((h (hn - 1)) 2)) (syS (h (hn - 1))) sy) (zmx (2 ^ ((h (hn - 1)) 2)) (gpS (h (hn - 1))) gp) i0 i1 i2 i3 fo de (inv_undo hI (by omega)) H locs hP hD hS ls hl
