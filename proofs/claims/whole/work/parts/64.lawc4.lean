set_option maxHeartbeats 4000000 in
set_option maxRecDepth 100000 in
theorem law_20 {p : Program} {e : Env} {s : State} {m : MethodId} {below : List Frame} {meth : Method} {c : Code} (l : Launch) {b L : Nat} {xs : Nat → Int32} (hL : L ≤ 1536) (C0 : lw_At p s m meth c b L xs) {D : va_G} {Y : Nat → ClassId} (hK : va_K D vwCl (zT Y) s) (hN : zNw s) {A M : Nat → Nat} {i : Nat} (hi : i + 3 ≤ L) (kk : zGo p l e s m below meth c b D Y A M i 808) : zGo p l e s m below meth c b D Y A M i 658 := by
  intro B σ hn h r0 r1 r2 r3 r4 wt wn hf sy gp i0 i1 i2 i3 fo de hI H locs hP hD hS ls hl
  obtain ⟨hx, hb, hr, hml, hown9, hts0, hX, hbl, hlocks, hgv⟩ := id C0
  have hown : s.vm.findClass RL = some m.cls := hown9
  have hts : ∀ w ∈ wsL_law, w.before #[Value.ref b] s = true := fun w hw => hts0 w (wsL_law_in w hw)
  have hbA : ¬ (fun q : Nat => s.heap.size ≤ q) b := Nat.not_le.mpr hbl
  obtain ⟨kσ, kr, khn, ksy, kgp, kM, kwt, kwn, kh, kf⟩ := id hI
  obtain ⟨n3, n12, d1, d3, dn, b4, b10, gl, lm, sn, wl, wnz⟩ := id kσ
  obtain ⟨x1, hx1⟩ : ∃ x, xs (i + 1) = x := ⟨_, rfl⟩
  by_cases hbad : ¬ (0 ≤ (x1).toInt ∧ (x1).toInt < ((2 ^ (4 * σ 1) : Nat) : Int))
  · refine lv_aload_n hx hb dL_law_658 rfl (lv_at hl 2 rfl) ?_
    refine lv_aload_n hx hb dL_law_659 rfl (lv_at hl 1 rfl) ?_
    refine lv_iload_n hx hb dL_law_660 rfl (lv_at hl 0 rfl) ?_
    refine lv_iconst (v := nI 1) hx hb dL_law_661 (by decide) ?_
    refine zv_iadd hx hb (v := nI (i + 1)) dL_law_662 (nI_add _ _) ?_
    refine zl_sld hx hb hX hbl hbA hS (show i + 1 < L by omega) (by omega) (v := (x1)) hx1 dL_law_663 ?_
    refine zc_r (va_runV (C := RX5) (As := [.int (x1)]) (rest := []) ⟨hx, hb, hml, hown, hts⟩ (c_X5_score l D Y A B σ hn h r0 r1 r2 r3 r4 wt wn x1 kσ kr) (cwV 1 hts gL_law_X5_score rfl rfl rfl (by decide +kernel) ⟨Nat.le_of_ble_eq_true rfl, Nat.le_of_ble_eq_true rfl⟩) ⟨zB_blind, va_recv hK (zP_left hP) (ci := 5) (q0 := 0) rfl rfl, zp_r (zP_left hP) hK hN⟩ rfl rfl hl.1 rfl (lv_room (Nat.le_of_ble_eq_true rfl)) dL_law_664 ⟨Nat.le_of_ble_eq_true rfl, Nat.le_of_ble_eq_true rfl⟩).run ?_
    refine lv_aload_n hx hb dL_law_667 rfl (lv_at hl 3 rfl) ?_
    refine lv_aload_n hx hb dL_law_668 rfl (lv_at hl 1 rfl) ?_
    refine lv_iload_n hx hb dL_law_669 rfl (lv_at hl 0 rfl) ?_
    refine lv_iconst (v := nI 1) hx hb dL_law_670 (by decide) ?_
    refine zv_iadd hx hb (v := nI (i + 1)) dL_law_671 (nI_add _ _) ?_
    refine zl_sld hx hb hX hbl hbA hS (show i + 1 < L by omega) (by omega) (v := (x1)) hx1 dL_law_672 ?_
    refine zc_r (va_runV (C := RX6) (As := [.int (x1)]) (rest := [.int (scoreV σ (x1).toInt)]) ⟨hx, hb, hml, hown, hts⟩ (c_X6_score_bad l D Y M σ hf hn wt wn sy gp i0 i1 i2 i3 fo de x1 kσ ksy kgp hbad) (cwV 1 hts gL_law_X6_score rfl rfl rfl (by decide +kernel) ⟨Nat.le_of_ble_eq_true rfl, Nat.le_of_ble_eq_true rfl⟩) ⟨zB_blind, va_recv hK (zP_right hP) (ci := 6) (q0 := 0) rfl rfl, zp_r (zP_right hP) hK hN⟩ rfl rfl hl.1 rfl (lv_room (Nat.le_of_ble_eq_true rfl)) dL_law_673 ⟨Nat.le_of_ble_eq_true rfl, Nat.le_of_ble_eq_true rfl⟩).run ?_
    refine lv_icmp_eq (tgt := 808) hx hb dL_law_676 (by decide) (fun _ => ?_) (fun h9 => absurd (if_neg hbad) h9)
    exact kk B σ hn h r0 r1 r2 r3 r4 wt wn hf sy gp i0 i1 i2 i3 fo de (hI) H locs hP hD hS ls hl
  · obtain ⟨j1, rfl, hj1⟩ := zNat9 x1 (by omega)
    have e1 := zt_n hj1
    have hb9 := Decidable.not_not.mp hbad
    have hm : j1 < 2 ^ (4 * σ 1) := by omega
    refine lv_aload_n hx hb dL_law_658 rfl (lv_at hl 2 rfl) ?_
    refine lv_aload_n hx hb dL_law_659 rfl (lv_at hl 1 rfl) ?_
    refine lv_iload_n hx hb dL_law_660 rfl (lv_at hl 0 rfl) ?_
    refine lv_iconst (v := nI 1) hx hb dL_law_661 (by decide) ?_
    refine zv_iadd hx hb (v := nI (i + 1)) dL_law_662 (nI_add _ _) ?_
    refine zl_sld hx hb hX hbl hbA hS (show i + 1 < L by omega) (by omega) (v := (nI j1)) hx1 dL_law_663 ?_
    refine zc_r (va_runV (C := RX5) (As := [.int (nI j1)]) (rest := []) ⟨hx, hb, hml, hown, hts⟩ (c_X5_score l D Y A B σ hn h r0 r1 r2 r3 r4 wt wn ((nI j1)) kσ kr) (cwV 1 hts gL_law_X5_score rfl rfl rfl (by decide +kernel) ⟨Nat.le_of_ble_eq_true rfl, Nat.le_of_ble_eq_true rfl⟩) ⟨zB_blind, va_recv hK (zP_left hP) (ci := 5) (q0 := 0) rfl rfl, zp_r (zP_left hP) hK hN⟩ rfl rfl hl.1 rfl (lv_room (Nat.le_of_ble_eq_true rfl)) dL_law_664 ⟨Nat.le_of_ble_eq_true rfl, Nat.le_of_ble_eq_true rfl⟩).run ?_
    refine lv_aload_n hx hb dL_law_667 rfl (lv_at hl 3 rfl) ?_
    refine lv_aload_n hx hb dL_law_668 rfl (lv_at hl 1 rfl) ?_
    refine lv_iload_n hx hb dL_law_669 rfl (lv_at hl 0 rfl) ?_
    refine lv_iconst (v := nI 1) hx hb dL_law_670 (by decide) ?_
    refine zv_iadd hx hb (v := nI (i + 1)) dL_law_671 (nI_add _ _) ?_
    refine zl_sld hx hb hX hbl hbA hS (show i + 1 < L by omega) (by omega) (v := (nI j1)) hx1 dL_law_672 ?_
    refine zc_wr (va_runV (C := RX6) (As := [.int (nI j1)]) (rest := [.int (scoreV σ ((nI j1)).toInt)]) ⟨hx, hb, hml, hown, hts⟩ (c_X6_score l D Y M σ hf hn wt wn sy gp i0 i1 i2 i3 fo de j1 kσ ksy kgp hm) (cwV 1 hts gL_law_X6_score rfl rfl rfl (by decide +kernel) ⟨Nat.le_of_ble_eq_true rfl, Nat.le_of_ble_eq_true rfl⟩) ⟨zBw_blind, va_recv hK (zP_right hP) (ci := 6) (q0 := 0) rfl rfl, zp_w (zP_right hP) (zD_right hD) hK hN⟩ rfl rfl hl.1 rfl (lv_room (Nat.le_of_ble_eq_true rfl)) dL_law_673 ⟨Nat.le_of_ble_eq_true rfl, Nat.le_of_ble_eq_true rfl⟩).run hP hD hS (MX_dd ((zD_self (zD_right hD)))) (fun H locs hP hD hS => ?_)
    refine lv_icmp_eq (tgt := 808) hx hb dL_law_676 (by decide) (fun _ => ?_) (fun h9 => absurd (by unfold scoreV; rw [if_pos hb9, zToI (by omega)]) h9)
    exact kk B σ hn h r0 r1 r2 r3 r4 wt wn hf sy gp (ag0 σ i0) (ag1 σ i1) (ag2 σ i2) (insI (trS σ) i3 (σ 0)) fo de (hI) H locs hP hD hS ls hl
set_option maxHeartbeats 4000000 in
set_option maxRecDepth 100000 in
theorem law_21 {p : Program} {e : Env} {s : State} {m : MethodId} {below : List Frame} {meth : Method} {c : Code} (l : Launch) {b L : Nat} {xs : Nat → Int32} (hL : L ≤ 1536) (C0 : lw_At p s m meth c b L xs) {D : va_G} {Y : Nat → ClassId} (hK : va_K D vwCl (zT Y) s) (hN : zNw s) {A M : Nat → Nat} {i : Nat} (hi : i + 3 ≤ L) (kk : zGo p l e s m below meth c b D Y A M i 808) : zGo p l e s m below meth c b D Y A M i 681 := by
  intro B σ hn h r0 r1 r2 r3 r4 wt wn hf sy gp i0 i1 i2 i3 fo de hI H locs hP hD hS ls hl
  obtain ⟨hx, hb, hr, hml, hown9, hts0, hX, hbl, hlocks, hgv⟩ := id C0
  have hown : s.vm.findClass RL = some m.cls := hown9
  have hts : ∀ w ∈ wsL_law, w.before #[Value.ref b] s = true := fun w hw => hts0 w (wsL_law_in w hw)
  have hbA : ¬ (fun q : Nat => s.heap.size ≤ q) b := Nat.not_le.mpr hbl
  obtain ⟨kσ, kr, khn, ksy, kgp, kM, kwt, kwn, kh, kf⟩ := id hI
  obtain ⟨n3, n12, d1, d3, dn, b4, b10, gl, lm, sn, wl, wnz⟩ := id kσ
  refine lv_aload_n hx hb dL_law_681 rfl (lv_at hl 2 rfl) ?_
  refine zc_r (va_runV (C := RX5) (As := []) (rest := []) ⟨hx, hb, hml, hown, hts⟩ (c_X5_lawful l D Y A B σ hn h r0 r1 r2 r3 r4 wt wn  kσ kr) (cwV 0 hts gL_law_X5_lawful rfl rfl rfl (by decide +kernel) ⟨Nat.le_of_ble_eq_true rfl, Nat.le_of_ble_eq_true rfl⟩) ⟨zB_blind, va_recv hK (zP_left hP) (ci := 5) (q0 := 0) rfl rfl, zp_r (zP_left hP) hK hN⟩ rfl rfl hl.1 rfl (lv_room (Nat.le_of_ble_eq_true rfl)) dL_law_682 ⟨Nat.le_of_ble_eq_true rfl, Nat.le_of_ble_eq_true rfl⟩).run ?_
  refine lv_aload_n hx hb dL_law_685 rfl (lv_at hl 3 rfl) ?_
  refine zc_wr (va_runV (C := RX6) (As := []) (rest := [.int (lawfulV σ)]) ⟨hx, hb, hml, hown, hts⟩ (c_X6_lawful l D Y M σ hf hn wt wn sy gp i0 i1 i2 i3 fo de  kσ ksy kgp) (cwV 0 hts gL_law_X6_lawful rfl rfl rfl (by decide +kernel) ⟨Nat.le_of_ble_eq_true rfl, Nat.le_of_ble_eq_true rfl⟩) ⟨zBw_blind, va_recv hK (zP_right hP) (ci := 6) (q0 := 0) rfl rfl, zp_w (zP_right hP) (zD_right hD) hK hN⟩ rfl rfl hl.1 rfl (lv_room (Nat.le_of_ble_eq_true rfl)) dL_law_686 ⟨Nat.le_of_ble_eq_true rfl, Nat.le_of_ble_eq_true rfl⟩).run hP hD hS (MX_dd ((zD_self (zD_right hD)))) (fun H locs hP hD hS => ?_)
  refine lv_icmp_eq (tgt := 808) hx hb dL_law_689 (by decide) (fun _ => ?_) (fun h9 => absurd (rfl) h9)
  exact kk B σ hn h r0 r1 r2 r3 r4 wt wn hf sy gp (ag0 σ i0) (ag1 σ i1) (ag2 σ i2) (insI (trS σ) i3 (σ 0)) fo de (hI) H locs hP hD hS ls hl
set_option maxHeartbeats 4000000 in
set_option maxRecDepth 100000 in
theorem law_22 {p : Program} {e : Env} {s : State} {m : MethodId} {below : List Frame} {meth : Method} {c : Code} (l : Launch) {b L : Nat} {xs : Nat → Int32} (hL : L ≤ 1536) (C0 : lw_At p s m meth c b L xs) {D : va_G} {Y : Nat → ClassId} (hK : va_K D vwCl (zT Y) s) (hN : zNw s) {A M : Nat → Nat} {i : Nat} (hi : i + 3 ≤ L) (kk : zGo p l e s m below meth c b D Y A M i 808) : zGo p l e s m below meth c b D Y A M i 694 := by
  intro B σ hn h r0 r1 r2 r3 r4 wt wn hf sy gp i0 i1 i2 i3 fo de hI H locs hP hD hS ls hl
  obtain ⟨hx, hb, hr, hml, hown9, hts0, hX, hbl, hlocks, hgv⟩ := id C0
  have hown : s.vm.findClass RL = some m.cls := hown9
  have hts : ∀ w ∈ wsL_law, w.before #[Value.ref b] s = true := fun w hw => hts0 w (wsL_law_in w hw)
  have hbA : ¬ (fun q : Nat => s.heap.size ≤ q) b := Nat.not_le.mpr hbl
  obtain ⟨kσ, kr, khn, ksy, kgp, kM, kwt, kwn, kh, kf⟩ := id hI
  obtain ⟨n3, n12, d1, d3, dn, b4, b10, gl, lm, sn, wl, wnz⟩ := id kσ
  refine lv_aload_n hx hb dL_law_694 rfl (lv_at hl 2 rfl) ?_
  refine zc_r (va_runV (C := RX5) (As := []) (rest := []) ⟨hx, hb, hml, hown, hts⟩ (c_X5_decode l D Y A B σ hn h r0 r1 r2 r3 r4 wt wn  kσ kr) (cwV 0 hts gL_law_X5_decode rfl rfl rfl (by decide +kernel) ⟨Nat.le_of_ble_eq_true rfl, Nat.le_of_ble_eq_true rfl⟩) ⟨zB_blind, va_recv hK (zP_left hP) (ci := 5) (q0 := 0) rfl rfl, zp_r (zP_left hP) hK hN⟩ rfl rfl hl.1 rfl (lv_room (Nat.le_of_ble_eq_true rfl)) dL_law_695 ⟨Nat.le_of_ble_eq_true rfl, Nat.le_of_ble_eq_true rfl⟩).run ?_
  refine lv_aload_n hx hb dL_law_698 rfl (lv_at hl 3 rfl) ?_
  refine zc_wr (va_runV (C := RX6) (As := []) (rest := [.int (decodeV σ)]) ⟨hx, hb, hml, hown, hts⟩ (c_X6_decode l D Y M σ hf hn wt wn sy gp i0 i1 i2 i3 fo de  kσ ksy kgp) (cwV 0 hts gL_law_X6_decode rfl rfl rfl (by decide +kernel) ⟨Nat.le_of_ble_eq_true rfl, Nat.le_of_ble_eq_true rfl⟩) ⟨zBw_blind, va_recv hK (zP_right hP) (ci := 6) (q0 := 0) rfl rfl, zp_w (zP_right hP) (zD_right hD) hK hN⟩ rfl rfl hl.1 rfl (lv_room (Nat.le_of_ble_eq_true rfl)) dL_law_699 ⟨Nat.le_of_ble_eq_true rfl, Nat.le_of_ble_eq_true rfl⟩).run hP hD hS (MX_dd ((zD_self (zD_right hD)))) (fun H locs hP hD hS => ?_)
  refine lv_icmp_eq (tgt := 808) hx hb dL_law_702 (by decide) (fun _ => ?_) (fun h9 => absurd (rfl) h9)
  exact kk B σ hn h r0 r1 r2 r3 r4 wt wn hf sy gp (ag0 σ i0) (ag1 σ i1) (ag2 σ i2) (insI (trS σ) i3 (σ 0)) (decodeV σ) (decTV σ) (hI) H locs hP hD hS ls hl
set_option maxHeartbeats 4000000 in
set_option maxRecDepth 100000 in
theorem law_23 {p : Program} {e : Env} {s : State} {m : MethodId} {below : List Frame} {meth : Method} {c : Code} (l : Launch) {b L : Nat} {xs : Nat → Int32} (hL : L ≤ 1536) (C0 : lw_At p s m meth c b L xs) {D : va_G} {Y : Nat → ClassId} (hK : va_K D vwCl (zT Y) s) (hN : zNw s) {A M : Nat → Nat} {i : Nat} (hi : i + 3 ≤ L) (kk : zGo p l e s m below meth c b D Y A M i 808) : zGo p l e s m below meth c b D Y A M i 707 := by
  intro B σ hn h r0 r1 r2 r3 r4 wt wn hf sy gp i0 i1 i2 i3 fo de hI H locs hP hD hS ls hl
  obtain ⟨hx, hb, hr, hml, hown9, hts0, hX, hbl, hlocks, hgv⟩ := id C0
  have hown : s.vm.findClass RL = some m.cls := hown9
  have hts : ∀ w ∈ wsL_law, w.before #[Value.ref b] s = true := fun w hw => hts0 w (wsL_law_in w hw)
  have hbA : ¬ (fun q : Nat => s.heap.size ≤ q) b := Nat.not_le.mpr hbl
  obtain ⟨kσ, kr, khn, ksy, kgp, kM, kwt, kwn, kh, kf⟩ := id hI
  obtain ⟨n3, n12, d1, d3, dn, b4, b10, gl, lm, sn, wl, wnz⟩ := id kσ
  refine lv_aload_n hx hb dL_law_707 rfl (lv_at hl 2 rfl) ?_
  refine zc_r (va_runV (C := RX5) (As := []) (rest := []) ⟨hx, hb, hml, hown, hts⟩ (c_X5_decidingTrial l D Y A B σ hn h r0 r1 r2 r3 r4 wt wn  kσ kr) (cwV 0 hts gL_law_X5_decidingTrial rfl rfl rfl (by decide +kernel) ⟨Nat.le_of_ble_eq_true rfl, Nat.le_of_ble_eq_true rfl⟩) ⟨zB_blind, va_recv hK (zP_left hP) (ci := 5) (q0 := 0) rfl rfl, zp_r (zP_left hP) hK hN⟩ rfl rfl hl.1 rfl (lv_room (Nat.le_of_ble_eq_true rfl)) dL_law_708 ⟨Nat.le_of_ble_eq_true rfl, Nat.le_of_ble_eq_true rfl⟩).run ?_
  refine lv_aload_n hx hb dL_law_711 rfl (lv_at hl 3 rfl) ?_
  refine zc_wr (va_runV (C := RX6) (As := []) (rest := [.int (decTV σ)]) ⟨hx, hb, hml, hown, hts⟩ (c_X6_decidingTrial l D Y M σ hf hn wt wn sy gp i0 i1 i2 i3 fo de  kσ ksy kgp) (cwV 0 hts gL_law_X6_decidingTrial rfl rfl rfl (by decide +kernel) ⟨Nat.le_of_ble_eq_true rfl, Nat.le_of_ble_eq_true rfl⟩) ⟨zBw_blind, va_recv hK (zP_right hP) (ci := 6) (q0 := 0) rfl rfl, zp_w (zP_right hP) (zD_right hD) hK hN⟩ rfl rfl hl.1 rfl (lv_room (Nat.le_of_ble_eq_true rfl)) dL_law_712 ⟨Nat.le_of_ble_eq_true rfl, Nat.le_of_ble_eq_true rfl⟩).run hP hD hS (MX_dd ((zD_self (zD_right hD)))) (fun H locs hP hD hS => ?_)
  refine lv_icmp_eq (tgt := 808) hx hb dL_law_715 (by decide) (fun _ => ?_) (fun h9 => absurd (rfl) h9)
  exact kk B σ hn h r0 r1 r2 r3 r4 wt wn hf sy gp (ag0 σ i0) (ag1 σ i1) (ag2 σ i2) (insI (trS σ) i3 (σ 0)) (decodeV σ) (decTV σ) (hI) H locs hP hD hS ls hl
set_option maxHeartbeats 4000000 in
set_option maxRecDepth 100000 in
theorem law_24 {p : Program} {e : Env} {s : State} {m : MethodId} {below : List Frame} {meth : Method} {c : Code} (l : Launch) {b L : Nat} {xs : Nat → Int32} (hL : L ≤ 1536) (C0 : lw_At p s m meth c b L xs) {D : va_G} {Y : Nat → ClassId} (hK : va_K D vwCl (zT Y) s) (hN : zNw s) {A M : Nat → Nat} {i : Nat} (hi : i + 3 ≤ L) (kk : zGo p l e s m below meth c b D Y A M i 808) : zGo p l e s m below meth c b D Y A M i 720 := by
  intro B σ hn h r0 r1 r2 r3 r4 wt wn hf sy gp i0 i1 i2 i3 fo de hI H locs hP hD hS ls hl
  obtain ⟨hx, hb, hr, hml, hown9, hts0, hX, hbl, hlocks, hgv⟩ := id C0
  have hown : s.vm.findClass RL = some m.cls := hown9
  have hts : ∀ w ∈ wsL_law, w.before #[Value.ref b] s = true := fun w hw => hts0 w (wsL_law_in w hw)
  have hbA : ¬ (fun q : Nat => s.heap.size ≤ q) b := Nat.not_le.mpr hbl
  obtain ⟨kσ, kr, khn, ksy, kgp, kM, kwt, kwn, kh, kf⟩ := id hI
  obtain ⟨n3, n12, d1, d3, dn, b4, b10, gl, lm, sn, wl, wnz⟩ := id kσ
  by_cases hlm : lawM σ < nMs σ
  · refine lv_aload_n hx hb dL_law_720 rfl (lv_at hl 2 rfl) ?_
    refine zc_r (va_runV (C := RX5) (As := []) (rest := []) ⟨hx, hb, hml, hown, hts⟩ (c_X5_margin l D Y A B σ hn h r0 r1 r2 r3 r4 wt wn  kσ kr) (cwV 0 hts gL_law_X5_margin rfl rfl rfl (by decide +kernel) ⟨Nat.le_of_ble_eq_true rfl, Nat.le_of_ble_eq_true rfl⟩) ⟨zB_blind, va_recv hK (zP_left hP) (ci := 5) (q0 := 0) rfl rfl, zp_r (zP_left hP) hK hN⟩ rfl rfl hl.1 rfl (lv_room (Nat.le_of_ble_eq_true rfl)) dL_law_721 ⟨Nat.le_of_ble_eq_true rfl, Nat.le_of_ble_eq_true rfl⟩).run ?_
    refine lv_aload_n hx hb dL_law_724 rfl (lv_at hl 3 rfl) ?_
    refine zc_wr (va_runV (C := RX6) (As := []) (rest := [.int (marginV σ)]) ⟨hx, hb, hml, hown, hts⟩ (c_X6_margin l D Y M σ hf hn wt wn sy gp i0 i1 i2 i3 fo de  kσ ksy kgp hlm) (cwV 0 hts gL_law_X6_margin rfl rfl rfl (by decide +kernel) ⟨Nat.le_of_ble_eq_true rfl, Nat.le_of_ble_eq_true rfl⟩) ⟨zBw_blind, va_recv hK (zP_right hP) (ci := 6) (q0 := 0) rfl rfl, zp_w (zP_right hP) (zD_right hD) hK hN⟩ rfl rfl hl.1 rfl (lv_room (Nat.le_of_ble_eq_true rfl)) dL_law_725 ⟨Nat.le_of_ble_eq_true rfl, Nat.le_of_ble_eq_true rfl⟩).run hP hD hS (MX_dd ((zD_self (zD_right hD)))) (fun H locs hP hD hS => ?_)
    refine lv_icmp_eq (tgt := 808) hx hb dL_law_728 (by decide) (fun _ => ?_) (fun h9 => absurd (if_pos hlm) h9)
    exact kk B σ hn h r0 r1 r2 r3 r4 wt wn hf sy gp (ag0 σ i0) (ag1 σ i1) (ag2 σ i2) (insI (trS σ) i3 (σ 0)) (decodeV σ) (decTV σ) (hI) H locs hP hD hS ls hl
  · refine lv_aload_n hx hb dL_law_720 rfl (lv_at hl 2 rfl) ?_
    refine zc_r (va_runV (C := RX5) (As := []) (rest := []) ⟨hx, hb, hml, hown, hts⟩ (c_X5_margin l D Y A B σ hn h r0 r1 r2 r3 r4 wt wn  kσ kr) (cwV 0 hts gL_law_X5_margin rfl rfl rfl (by decide +kernel) ⟨Nat.le_of_ble_eq_true rfl, Nat.le_of_ble_eq_true rfl⟩) ⟨zB_blind, va_recv hK (zP_left hP) (ci := 5) (q0 := 0) rfl rfl, zp_r (zP_left hP) hK hN⟩ rfl rfl hl.1 rfl (lv_room (Nat.le_of_ble_eq_true rfl)) dL_law_721 ⟨Nat.le_of_ble_eq_true rfl, Nat.le_of_ble_eq_true rfl⟩).run ?_
    refine lv_aload_n hx hb dL_law_724 rfl (lv_at hl 3 rfl) ?_
    refine zc_wr (va_runV (C := RX6) (As := []) (rest := [.int (marginV σ)]) ⟨hx, hb, hml, hown, hts⟩ (c_X6_margin_not l D Y M σ hf hn wt wn sy gp i0 i1 i2 i3 fo de  kσ ksy kgp (by omega)) (cwV 0 hts gL_law_X6_margin rfl rfl rfl (by decide +kernel) ⟨Nat.le_of_ble_eq_true rfl, Nat.le_of_ble_eq_true rfl⟩) ⟨zBw_blind, va_recv hK (zP_right hP) (ci := 6) (q0 := 0) rfl rfl, zp_w (zP_right hP) (zD_right hD) hK hN⟩ rfl rfl hl.1 rfl (lv_room (Nat.le_of_ble_eq_true rfl)) dL_law_725 ⟨Nat.le_of_ble_eq_true rfl, Nat.le_of_ble_eq_true rfl⟩).run hP hD hS (MX_dd ((zD_self (zD_right hD)))) (fun H locs hP hD hS => ?_)
    refine lv_icmp_eq (tgt := 808) hx hb dL_law_728 (by decide) (fun _ => ?_) (fun h9 => absurd (if_neg hlm) h9)
    exact kk B σ hn h r0 r1 r2 r3 r4 wt wn hf sy gp (ag0 σ i0) (ag1 σ i1) (ag2 σ i2) (insI (trS σ) i3 (σ 0)) (decodeV σ) (decTV σ) (hI) H locs hP hD hS ls hl
set_option maxHeartbeats 4000000 in
set_option maxRecDepth 100000 in
theorem law_25 {p : Program} {e : Env} {s : State} {m : MethodId} {below : List Frame} {meth : Method} {c : Code} (l : Launch) {b L : Nat} {xs : Nat → Int32} (hL : L ≤ 1536) (C0 : lw_At p s m meth c b L xs) {D : va_G} {Y : Nat → ClassId} (hK : va_K D vwCl (zT Y) s) (hN : zNw s) {A M : Nat → Nat} {i : Nat} (hi : i + 3 ≤ L) (kk : zGo p l e s m below meth c b D Y A M i 808) : zGo p l e s m below meth c b D Y A M i 733 := by
  intro B σ hn h r0 r1 r2 r3 r4 wt wn hf sy gp i0 i1 i2 i3 fo de hI H locs hP hD hS ls hl
  obtain ⟨hx, hb, hr, hml, hown9, hts0, hX, hbl, hlocks, hgv⟩ := id C0
  have hown : s.vm.findClass RL = some m.cls := hown9
  have hts : ∀ w ∈ wsL_law, w.before #[Value.ref b] s = true := fun w hw => hts0 w (wsL_law_in w hw)
  have hbA : ¬ (fun q : Nat => s.heap.size ≤ q) b := Nat.not_le.mpr hbl
  obtain ⟨kσ, kr, khn, ksy, kgp, kM, kwt, kwn, kh, kf⟩ := id hI
  obtain ⟨n3, n12, d1, d3, dn, b4, b10, gl, lm, sn, wl, wnz⟩ := id kσ
  refine lv_aload_n hx hb dL_law_733 rfl (lv_at hl 2 rfl) ?_
  refine zc_r (va_runV (C := RX5) (As := []) (rest := []) ⟨hx, hb, hml, hown, hts⟩ (c_X5_wastedTrials l D Y A B σ hn h r0 r1 r2 r3 r4 wt wn  kσ kr) (cwV 0 hts gL_law_X5_wastedTrials rfl rfl rfl (by decide +kernel) ⟨Nat.le_of_ble_eq_true rfl, Nat.le_of_ble_eq_true rfl⟩) ⟨zB_blind, va_recv hK (zP_left hP) (ci := 5) (q0 := 0) rfl rfl, zp_r (zP_left hP) hK hN⟩ rfl rfl hl.1 rfl (lv_room (Nat.le_of_ble_eq_true rfl)) dL_law_734 ⟨Nat.le_of_ble_eq_true rfl, Nat.le_of_ble_eq_true rfl⟩).run ?_
  refine lv_aload_n hx hb dL_law_737 rfl (lv_at hl 3 rfl) ?_
  refine zc_wr (va_runV (C := RX6) (As := []) (rest := [.int (wastedV σ)]) ⟨hx, hb, hml, hown, hts⟩ (c_X6_wastedTrials l D Y M σ hf hn wt wn sy gp i0 i1 i2 i3 fo de  kσ ksy kgp) (cwV 0 hts gL_law_X6_wastedTrials rfl rfl rfl (by decide +kernel) ⟨Nat.le_of_ble_eq_true rfl, Nat.le_of_ble_eq_true rfl⟩) ⟨zBw_blind, va_recv hK (zP_right hP) (ci := 6) (q0 := 0) rfl rfl, zp_w (zP_right hP) (zD_right hD) hK hN⟩ rfl rfl hl.1 rfl (lv_room (Nat.le_of_ble_eq_true rfl)) dL_law_738 ⟨Nat.le_of_ble_eq_true rfl, Nat.le_of_ble_eq_true rfl⟩).run hP hD hS (MX_dd ((zD_self (zD_right hD)))) (fun H locs hP hD hS => ?_)
  refine lv_icmp_eq (tgt := 808) hx hb dL_law_741 (by decide) (fun _ => ?_) (fun h9 => absurd (rfl) h9)
  exact kk B σ hn h r0 r1 r2 r3 r4 wt wn hf sy gp (ag0 σ i0) (ag1 σ i1) (ag2 σ i2) (insI (trS σ) i3 (σ 0)) fo de (hI) H locs hP hD hS ls hl
set_option maxHeartbeats 4000000 in
set_option maxRecDepth 100000 in
theorem law_26 {p : Program} {e : Env} {s : State} {m : MethodId} {below : List Frame} {meth : Method} {c : Code} (l : Launch) {b L : Nat} {xs : Nat → Int32} (hL : L ≤ 1536) (C0 : lw_At p s m meth c b L xs) {D : va_G} {Y : Nat → ClassId} (hK : va_K D vwCl (zT Y) s) (hN : zNw s) {A M : Nat → Nat} {i : Nat} (hi : i + 3 ≤ L) (kk : zGo p l e s m below meth c b D Y A M i 808) : zGo p l e s m below meth c b D Y A M i 746 := by
  intro B σ hn h r0 r1 r2 r3 r4 wt wn hf sy gp i0 i1 i2 i3 fo de hI H locs hP hD hS ls hl
  obtain ⟨hx, hb, hr, hml, hown9, hts0, hX, hbl, hlocks, hgv⟩ := id C0
  have hown : s.vm.findClass RL = some m.cls := hown9
  have hts : ∀ w ∈ wsL_law, w.before #[Value.ref b] s = true := fun w hw => hts0 w (wsL_law_in w hw)
  have hbA : ¬ (fun q : Nat => s.heap.size ≤ q) b := Nat.not_le.mpr hbl
  obtain ⟨kσ, kr, khn, ksy, kgp, kM, kwt, kwn, kh, kf⟩ := id hI
  obtain ⟨n3, n12, d1, d3, dn, b4, b10, gl, lm, sn, wl, wnz⟩ := id kσ
  refine lv_aload_n hx hb dL_law_746 rfl (lv_at hl 2 rfl) ?_
  refine zc_r (va_runV (C := RX5) (As := []) (rest := []) ⟨hx, hb, hml, hown, hts⟩ (c_X5_isGuaranteed l D Y A B σ hn h r0 r1 r2 r3 r4 wt wn  kσ kr) (cwV 0 hts gL_law_X5_isGuaranteed rfl rfl rfl (by decide +kernel) ⟨Nat.le_of_ble_eq_true rfl, Nat.le_of_ble_eq_true rfl⟩) ⟨zB_blind, va_recv hK (zP_left hP) (ci := 5) (q0 := 0) rfl rfl, zp_r (zP_left hP) hK hN⟩ rfl rfl hl.1 rfl (lv_room (Nat.le_of_ble_eq_true rfl)) dL_law_747 ⟨Nat.le_of_ble_eq_true rfl, Nat.le_of_ble_eq_true rfl⟩).run ?_
  refine lv_aload_n hx hb dL_law_750 rfl (lv_at hl 3 rfl) ?_
  refine zc_r (va_runV (C := RX6) (As := []) (rest := [.int (guarV σ)]) ⟨hx, hb, hml, hown, hts⟩ (c_X6_isGuaranteed l D Y M σ hf hn wt wn sy gp i0 i1 i2 i3 fo de  kσ ksy kgp kM) (cwV 0 hts gL_law_X6_isGuaranteed rfl rfl rfl (by decide +kernel) ⟨Nat.le_of_ble_eq_true rfl, Nat.le_of_ble_eq_true rfl⟩) ⟨zB_blind, va_recv hK (zP_right hP) (ci := 6) (q0 := 0) rfl rfl, zp_r (zP_right hP) hK hN⟩ rfl rfl hl.1 rfl (lv_room (Nat.le_of_ble_eq_true rfl)) dL_law_751 ⟨Nat.le_of_ble_eq_true rfl, Nat.le_of_ble_eq_true rfl⟩).run ?_
  refine lv_icmp_eq (tgt := 808) hx hb dL_law_754 (by decide) (fun _ => ?_) (fun h9 => absurd (rfl) h9)
  exact kk B σ hn h r0 r1 r2 r3 r4 wt wn hf sy gp i0 i1 i2 i3 fo de (hI) H locs hP hD hS ls hl
set_option maxHeartbeats 4000000 in
set_option maxRecDepth 100000 in
theorem law_27 {p : Program} {e : Env} {s : State} {m : MethodId} {below : List Frame} {meth : Method} {c : Code} (l : Launch) {b L : Nat} {xs : Nat → Int32} (hL : L ≤ 1536) (C0 : lw_At p s m meth c b L xs) {D : va_G} {Y : Nat → ClassId} (hK : va_K D vwCl (zT Y) s) (hN : zNw s) {A M : Nat → Nat} {i : Nat} (hi : i + 3 ≤ L) (kk : zGo p l e s m below meth c b D Y A M i 808) : zGo p l e s m below meth c b D Y A M i 759 := by
  intro B σ hn h r0 r1 r2 r3 r4 wt wn hf sy gp i0 i1 i2 i3 fo de hI H locs hP hD hS ls hl
  obtain ⟨hx, hb, hr, hml, hown9, hts0, hX, hbl, hlocks, hgv⟩ := id C0
  have hown : s.vm.findClass RL = some m.cls := hown9
  have hts : ∀ w ∈ wsL_law, w.before #[Value.ref b] s = true := fun w hw => hts0 w (wsL_law_in w hw)
  have hbA : ¬ (fun q : Nat => s.heap.size ≤ q) b := Nat.not_le.mpr hbl
  obtain ⟨kσ, kr, khn, ksy, kgp, kM, kwt, kwn, kh, kf⟩ := id hI
  obtain ⟨n3, n12, d1, d3, dn, b4, b10, gl, lm, sn, wl, wnz⟩ := id kσ
  refine lv_aload_n hx hb dL_law_759 rfl (lv_at hl 2 rfl) ?_
  refine zc_r (va_runV (C := RX5) (As := []) (rest := []) ⟨hx, hb, hml, hown, hts⟩ (c_X5_fragileBits l D Y A B σ hn h r0 r1 r2 r3 r4 wt wn  kσ kr) (cwV 0 hts gL_law_X5_fragileBits rfl rfl rfl (by decide +kernel) ⟨Nat.le_of_ble_eq_true rfl, Nat.le_of_ble_eq_true rfl⟩) ⟨zB_blind, va_recv hK (zP_left hP) (ci := 5) (q0 := 0) rfl rfl, zp_r (zP_left hP) hK hN⟩ rfl rfl hl.1 rfl (lv_room (Nat.le_of_ble_eq_true rfl)) dL_law_760 ⟨Nat.le_of_ble_eq_true rfl, Nat.le_of_ble_eq_true rfl⟩).run ?_
  refine lv_aload_n hx hb dL_law_763 rfl (lv_at hl 3 rfl) ?_
  refine zc_wr (va_runV (C := RX6) (As := []) (rest := [.int (nI (frbI σ (σ 0)))]) ⟨hx, hb, hml, hown, hts⟩ (c_X6_fragileBits l D Y M σ hf hn wt wn sy gp i0 i1 i2 i3 fo de  kσ ksy kgp) (cwV 0 hts gL_law_X6_fragileBits rfl rfl rfl (by decide +kernel) ⟨Nat.le_of_ble_eq_true rfl, Nat.le_of_ble_eq_true rfl⟩) ⟨zBw_blind, va_recv hK (zP_right hP) (ci := 6) (q0 := 0) rfl rfl, zp_w (zP_right hP) (zD_right hD) hK hN⟩ rfl rfl hl.1 rfl (lv_room (Nat.le_of_ble_eq_true rfl)) dL_law_764 ⟨Nat.le_of_ble_eq_true rfl, Nat.le_of_ble_eq_true rfl⟩).run hP hD hS (MX_dd ((zD_self (zD_right hD)))) (fun H locs hP hD hS => ?_)
  refine lv_icmp_eq (tgt := 808) hx hb dL_law_767 (by decide) (fun _ => ?_) (fun h9 => absurd (rfl) h9)
  exact kk B σ hn h r0 r1 r2 r3 r4 wt wn hf sy gp ((jbJ σ (i0, i1, i2, i3, fo, de) (σ 0)).1) ((jbJ σ (i0, i1, i2, i3, fo, de) (σ 0)).2.1) ((jbJ σ (i0, i1, i2, i3, fo, de) (σ 0)).2.2.1) ((jbJ σ (i0, i1, i2, i3, fo, de) (σ 0)).2.2.2.1) ((jbJ σ (i0, i1, i2, i3, fo, de) (σ 0)).2.2.2.2.1) ((jbJ σ (i0, i1, i2, i3, fo, de) (σ 0)).2.2.2.2.2) (hI) H locs hP hD hS ls hl
set_option maxHeartbeats 4000000 in
set_option maxRecDepth 100000 in
theorem law_28 {p : Program} {e : Env} {s : State} {m : MethodId} {below : List Frame} {meth : Method} {c : Code} (l : Launch) {b L : Nat} {xs : Nat → Int32} (hL : L ≤ 1536) (C0 : lw_At p s m meth c b L xs) {D : va_G} {Y : Nat → ClassId} (hK : va_K D vwCl (zT Y) s) (hN : zNw s) {A M : Nat → Nat} {i : Nat} (hi : i + 3 ≤ L) (kk : zGo p l e s m below meth c b D Y A M i 808) : zGo p l e s m below meth c b D Y A M i 772 := by
  intro B σ hn h r0 r1 r2 r3 r4 wt wn hf sy gp i0 i1 i2 i3 fo de hI H locs hP hD hS ls hl
  obtain ⟨hx, hb, hr, hml, hown9, hts0, hX, hbl, hlocks, hgv⟩ := id C0
  have hown : s.vm.findClass RL = some m.cls := hown9
  have hts : ∀ w ∈ wsL_law, w.before #[Value.ref b] s = true := fun w hw => hts0 w (wsL_law_in w hw)
  have hbA : ¬ (fun q : Nat => s.heap.size ≤ q) b := Nat.not_le.mpr hbl
  obtain ⟨kσ, kr, khn, ksy, kgp, kM, kwt, kwn, kh, kf⟩ := id hI
  obtain ⟨n3, n12, d1, d3, dn, b4, b10, gl, lm, sn, wl, wnz⟩ := id kσ
  refine lv_aload_n hx hb dL_law_772 rfl (lv_at hl 2 rfl) ?_
  refine zc_r (va_runV (C := RX5) (As := []) (rest := []) ⟨hx, hb, hml, hown, hts⟩ (c_X5_fragileBlocks l D Y A B σ hn h r0 r1 r2 r3 r4 wt wn  kσ kr) (cwV 0 hts gL_law_X5_fragileBlocks rfl rfl rfl (by decide +kernel) ⟨Nat.le_of_ble_eq_true rfl, Nat.le_of_ble_eq_true rfl⟩) ⟨zB_blind, va_recv hK (zP_left hP) (ci := 5) (q0 := 0) rfl rfl, zp_r (zP_left hP) hK hN⟩ rfl rfl hl.1 rfl (lv_room (Nat.le_of_ble_eq_true rfl)) dL_law_773 ⟨Nat.le_of_ble_eq_true rfl, Nat.le_of_ble_eq_true rfl⟩).run ?_
  refine lv_aload_n hx hb dL_law_776 rfl (lv_at hl 3 rfl) ?_
  refine zc_wr (va_runV (C := RX6) (As := []) (rest := [.int (nI (frkI σ (σ 0)))]) ⟨hx, hb, hml, hown, hts⟩ (c_X6_fragileBlocks l D Y M σ hf hn wt wn sy gp i0 i1 i2 i3 fo de  kσ ksy kgp) (cwV 0 hts gL_law_X6_fragileBlocks rfl rfl rfl (by decide +kernel) ⟨Nat.le_of_ble_eq_true rfl, Nat.le_of_ble_eq_true rfl⟩) ⟨zBw_blind, va_recv hK (zP_right hP) (ci := 6) (q0 := 0) rfl rfl, zp_w (zP_right hP) (zD_right hD) hK hN⟩ rfl rfl hl.1 rfl (lv_room (Nat.le_of_ble_eq_true rfl)) dL_law_777 ⟨Nat.le_of_ble_eq_true rfl, Nat.le_of_ble_eq_true rfl⟩).run hP hD hS (MX_dd ((zD_self (zD_right hD)))) (fun H locs hP hD hS => ?_)
  refine lv_icmp_eq (tgt := 808) hx hb dL_law_780 (by decide) (fun _ => ?_) (fun h9 => absurd (rfl) h9)
  exact kk B σ hn h r0 r1 r2 r3 r4 wt wn hf sy gp ((jkJ σ (i0, i1, i2, i3, fo, de) (σ 0)).1) ((jkJ σ (i0, i1, i2, i3, fo, de) (σ 0)).2.1) ((jkJ σ (i0, i1, i2, i3, fo, de) (σ 0)).2.2.1) ((jkJ σ (i0, i1, i2, i3, fo, de) (σ 0)).2.2.2.1) ((jkJ σ (i0, i1, i2, i3, fo, de) (σ 0)).2.2.2.2.1) ((jkJ σ (i0, i1, i2, i3, fo, de) (σ 0)).2.2.2.2.2) (hI) H locs hP hD hS ls hl
set_option maxHeartbeats 4000000 in
set_option maxRecDepth 100000 in
theorem law_29 {p : Program} {e : Env} {s : State} {m : MethodId} {below : List Frame} {meth : Method} {c : Code} (l : Launch) {b L : Nat} {xs : Nat → Int32} (hL : L ≤ 1536) (C0 : lw_At p s m meth c b L xs) {D : va_G} {Y : Nat → ClassId} (hK : va_K D vwCl (zT Y) s) (hN : zNw s) {A M : Nat → Nat} {i : Nat} (hi : i + 3 ≤ L) (kk : zGo p l e s m below meth c b D Y A M i 808) : zGo p l e s m below meth c b D Y A M i 785 := by
  intro B σ hn h r0 r1 r2 r3 r4 wt wn hf sy gp i0 i1 i2 i3 fo de hI H locs hP hD hS ls hl
  obtain ⟨hx, hb, hr, hml, hown9, hts0, hX, hbl, hlocks, hgv⟩ := id C0
  have hown : s.vm.findClass RL = some m.cls := hown9
  have hts : ∀ w ∈ wsL_law, w.before #[Value.ref b] s = true := fun w hw => hts0 w (wsL_law_in w hw)
  have hbA : ¬ (fun q : Nat => s.heap.size ≤ q) b := Nat.not_le.mpr hbl
  obtain ⟨kσ, kr, khn, ksy, kgp, kM, kwt, kwn, kh, kf⟩ := id hI
  obtain ⟨n3, n12, d1, d3, dn, b4, b10, gl, lm, sn, wl, wnz⟩ := id kσ
  obtain ⟨x1, hx1⟩ : ∃ x, xs (i + 1) = x := ⟨_, rfl⟩
  by_cases hbad : ¬ (0 ≤ (x1).toInt ∧ (x1).toInt < 2)
  · refine lv_aload_n hx hb dL_law_785 rfl (lv_at hl 2 rfl) ?_
    refine lv_aload_n hx hb dL_law_786 rfl (lv_at hl 1 rfl) ?_
    refine lv_iload_n hx hb dL_law_787 rfl (lv_at hl 0 rfl) ?_
    refine lv_iconst (v := nI 1) hx hb dL_law_788 (by decide) ?_
    refine zv_iadd hx hb (v := nI (i + 1)) dL_law_789 (nI_add _ _) ?_
    refine zl_sld hx hb hX hbl hbA hS (show i + 1 < L by omega) (by omega) (v := (x1)) hx1 dL_law_790 ?_
    refine zc_r (va_runV (C := RX5) (As := [.int (x1)]) (rest := []) ⟨hx, hb, hml, hown, hts⟩ (c_X5_nearest l D Y A B σ hn h r0 r1 r2 r3 r4 wt wn x1 kσ kr) (cwV 1 hts gL_law_X5_nearest rfl rfl rfl (by decide +kernel) ⟨Nat.le_of_ble_eq_true rfl, Nat.le_of_ble_eq_true rfl⟩) ⟨zB_blind, va_recv hK (zP_left hP) (ci := 5) (q0 := 0) rfl rfl, zp_r (zP_left hP) hK hN⟩ rfl rfl hl.1 rfl (lv_room (Nat.le_of_ble_eq_true rfl)) dL_law_791 ⟨Nat.le_of_ble_eq_true rfl, Nat.le_of_ble_eq_true rfl⟩).run ?_
    refine lv_aload_n hx hb dL_law_794 rfl (lv_at hl 3 rfl) ?_
    refine lv_aload_n hx hb dL_law_795 rfl (lv_at hl 1 rfl) ?_
    refine lv_iload_n hx hb dL_law_796 rfl (lv_at hl 0 rfl) ?_
    refine lv_iconst (v := nI 1) hx hb dL_law_797 (by decide) ?_
    refine zv_iadd hx hb (v := nI (i + 1)) dL_law_798 (nI_add _ _) ?_
    refine zl_sld hx hb hX hbl hbA hS (show i + 1 < L by omega) (by omega) (v := (x1)) hx1 dL_law_799 ?_
    refine zc_r (va_runV (C := RX6) (As := [.int (x1)]) (rest := [.int (nearV σ (x1).toInt)]) ⟨hx, hb, hml, hown, hts⟩ (c_X6_nearest_bad l D Y M σ hf hn wt wn sy gp i0 i1 i2 i3 fo de x1 kσ ksy kgp hbad) (cwV 1 hts gL_law_X6_nearest rfl rfl rfl (by decide +kernel) ⟨Nat.le_of_ble_eq_true rfl, Nat.le_of_ble_eq_true rfl⟩) ⟨zB_blind, va_recv hK (zP_right hP) (ci := 6) (q0 := 0) rfl rfl, zp_r (zP_right hP) hK hN⟩ rfl rfl hl.1 rfl (lv_room (Nat.le_of_ble_eq_true rfl)) dL_law_800 ⟨Nat.le_of_ble_eq_true rfl, Nat.le_of_ble_eq_true rfl⟩).run ?_
    refine lv_icmp_eq (tgt := 808) hx hb dL_law_803 (by decide) (fun _ => ?_) (fun h9 => absurd (if_neg hbad) h9)
    exact kk B σ hn h r0 r1 r2 r3 r4 wt wn hf sy gp i0 i1 i2 i3 fo de (hI) H locs hP hD hS ls hl
  · have hb9 := Decidable.not_not.mp hbad
    by_cases hlm : lawM σ < nMs σ
    · refine lv_aload_n hx hb dL_law_785 rfl (lv_at hl 2 rfl) ?_
      refine lv_aload_n hx hb dL_law_786 rfl (lv_at hl 1 rfl) ?_
      refine lv_iload_n hx hb dL_law_787 rfl (lv_at hl 0 rfl) ?_
      refine lv_iconst (v := nI 1) hx hb dL_law_788 (by decide) ?_
      refine zv_iadd hx hb (v := nI (i + 1)) dL_law_789 (nI_add _ _) ?_
      refine zl_sld hx hb hX hbl hbA hS (show i + 1 < L by omega) (by omega) (v := (x1)) hx1 dL_law_790 ?_
      refine zc_r (va_runV (C := RX5) (As := [.int (x1)]) (rest := []) ⟨hx, hb, hml, hown, hts⟩ (c_X5_nearest l D Y A B σ hn h r0 r1 r2 r3 r4 wt wn x1 kσ kr) (cwV 1 hts gL_law_X5_nearest rfl rfl rfl (by decide +kernel) ⟨Nat.le_of_ble_eq_true rfl, Nat.le_of_ble_eq_true rfl⟩) ⟨zB_blind, va_recv hK (zP_left hP) (ci := 5) (q0 := 0) rfl rfl, zp_r (zP_left hP) hK hN⟩ rfl rfl hl.1 rfl (lv_room (Nat.le_of_ble_eq_true rfl)) dL_law_791 ⟨Nat.le_of_ble_eq_true rfl, Nat.le_of_ble_eq_true rfl⟩).run ?_
      refine lv_aload_n hx hb dL_law_794 rfl (lv_at hl 3 rfl) ?_
      refine lv_aload_n hx hb dL_law_795 rfl (lv_at hl 1 rfl) ?_
      refine lv_iload_n hx hb dL_law_796 rfl (lv_at hl 0 rfl) ?_
      refine lv_iconst (v := nI 1) hx hb dL_law_797 (by decide) ?_
      refine zv_iadd hx hb (v := nI (i + 1)) dL_law_798 (nI_add _ _) ?_
      refine zl_sld hx hb hX hbl hbA hS (show i + 1 < L by omega) (by omega) (v := (x1)) hx1 dL_law_799 ?_
      refine zc_wr (va_runV (C := RX6) (As := [.int (x1)]) (rest := [.int (nearV σ (x1).toInt)]) ⟨hx, hb, hml, hown, hts⟩ (c_X6_nearest l D Y M σ hf hn wt wn sy gp i0 i1 i2 i3 fo de x1 kσ ksy kgp hb9.1 hb9.2 hlm) (cwV 1 hts gL_law_X6_nearest rfl rfl rfl (by decide +kernel) ⟨Nat.le_of_ble_eq_true rfl, Nat.le_of_ble_eq_true rfl⟩) ⟨zBw_blind, va_recv hK (zP_right hP) (ci := 6) (q0 := 0) rfl rfl, zp_w (zP_right hP) (zD_right hD) hK hN⟩ rfl rfl hl.1 rfl (lv_room (Nat.le_of_ble_eq_true rfl)) dL_law_800 ⟨Nat.le_of_ble_eq_true rfl, Nat.le_of_ble_eq_true rfl⟩).run hP hD hS (MX_dd ((zD_self (zD_right hD)))) (fun H locs hP hD hS => ?_)
      refine lv_icmp_eq (tgt := 808) hx hb dL_law_803 (by decide) (fun _ => ?_) (fun h9 => absurd (rfl) h9)
      exact kk B σ hn h r0 r1 r2 r3 r4 wt wn hf sy gp (ag0 σ i0) (ag1 σ i1) (ag2 σ i2) (insI (trS σ) i3 (σ 0)) (decodeV σ) (decTV σ) (hI) H locs hP hD hS ls hl
    · refine lv_aload_n hx hb dL_law_785 rfl (lv_at hl 2 rfl) ?_
      refine lv_aload_n hx hb dL_law_786 rfl (lv_at hl 1 rfl) ?_
      refine lv_iload_n hx hb dL_law_787 rfl (lv_at hl 0 rfl) ?_
      refine lv_iconst (v := nI 1) hx hb dL_law_788 (by decide) ?_
      refine zv_iadd hx hb (v := nI (i + 1)) dL_law_789 (nI_add _ _) ?_
      refine zl_sld hx hb hX hbl hbA hS (show i + 1 < L by omega) (by omega) (v := (x1)) hx1 dL_law_790 ?_
      refine zc_r (va_runV (C := RX5) (As := [.int (x1)]) (rest := []) ⟨hx, hb, hml, hown, hts⟩ (c_X5_nearest l D Y A B σ hn h r0 r1 r2 r3 r4 wt wn x1 kσ kr) (cwV 1 hts gL_law_X5_nearest rfl rfl rfl (by decide +kernel) ⟨Nat.le_of_ble_eq_true rfl, Nat.le_of_ble_eq_true rfl⟩) ⟨zB_blind, va_recv hK (zP_left hP) (ci := 5) (q0 := 0) rfl rfl, zp_r (zP_left hP) hK hN⟩ rfl rfl hl.1 rfl (lv_room (Nat.le_of_ble_eq_true rfl)) dL_law_791 ⟨Nat.le_of_ble_eq_true rfl, Nat.le_of_ble_eq_true rfl⟩).run ?_
      refine lv_aload_n hx hb dL_law_794 rfl (lv_at hl 3 rfl) ?_
      refine lv_aload_n hx hb dL_law_795 rfl (lv_at hl 1 rfl) ?_
      refine lv_iload_n hx hb dL_law_796 rfl (lv_at hl 0 rfl) ?_
      refine lv_iconst (v := nI 1) hx hb dL_law_797 (by decide) ?_
      refine zv_iadd hx hb (v := nI (i + 1)) dL_law_798 (nI_add _ _) ?_
      refine zl_sld hx hb hX hbl hbA hS (show i + 1 < L by omega) (by omega) (v := (x1)) hx1 dL_law_799 ?_
      refine zc_wr (va_runV (C := RX6) (As := [.int (x1)]) (rest := [.int (nearV σ (x1).toInt)]) ⟨hx, hb, hml, hown, hts⟩ (c_X6_nearest_not l D Y M σ hf hn wt wn sy gp i0 i1 i2 i3 fo de x1 kσ ksy kgp hb9.1 hb9.2 (by omega)) (cwV 1 hts gL_law_X6_nearest rfl rfl rfl (by decide +kernel) ⟨Nat.le_of_ble_eq_true rfl, Nat.le_of_ble_eq_true rfl⟩) ⟨zBw_blind, va_recv hK (zP_right hP) (ci := 6) (q0 := 0) rfl rfl, zp_w (zP_right hP) (zD_right hD) hK hN⟩ rfl rfl hl.1 rfl (lv_room (Nat.le_of_ble_eq_true rfl)) dL_law_800 ⟨Nat.le_of_ble_eq_true rfl, Nat.le_of_ble_eq_true rfl⟩).run hP hD hS (MX_dd ((zD_self (zD_right hD)))) (fun H locs hP hD hS => ?_)
      refine lv_icmp_eq (tgt := 808) hx hb dL_law_803 (by decide) (fun _ => ?_) (fun h9 => absurd (by unfold nearV; rw [if_pos hb9, if_neg hlm]) h9)
      exact kk B σ hn h r0 r1 r2 r3 r4 wt wn hf sy gp (ag0 σ i0) (ag1 σ i1) (ag2 σ i2) (insI (trS σ) i3 (σ 0)) (decodeV σ) (decTV σ) (hI) H locs hP hD hS ls hl
