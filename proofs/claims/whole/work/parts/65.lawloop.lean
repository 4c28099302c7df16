set_option maxHeartbeats 4000000 in
set_option maxRecDepth 100000 in
theorem law_loop {p : Program} {e : Env} {s : State} {m : MethodId} {below : List Frame} {meth : Method} {c : Code} (l : Launch) {b L : Nat} {xs : Nat → Int32} (hL : L ≤ 1536) (C0 : lw_At p s m meth c b L xs) {D : va_G} {Y : Nat → ClassId} (hK : va_K D vwCl (zT Y) s) (hN : zNw s) {A M : Nat → Nat} (hflags : True) : ∀ (n9 i : Nat), L - i < n9 → i ≤ L → zGo p l e s m below meth c b D Y A M i 18 := by
  intro n9
  induction n9 with
  | zero => intro i h; exact absurd h (Nat.not_lt_zero _)
  | succ n9 ih =>
    intro i hn9 hi
    obtain ⟨hx, hb, hr, hml, hown9, hts0, hX, hbl, hlocks, hgv⟩ := id C0
    have hbA : ¬ (fun q : Nat => s.heap.size ≤ q) b := Nat.not_le.mpr hbl
    have hback : i + 3 ≤ L → zGo p l e s m below meth c b D Y A M i 808 := by
      intro h3 B σ hn h r0 r1 r2 r3 r4 wt wn hf sy gp i0 i1 i2 i3 fo de hI H locs hP hD hS ls hl
      refine lv_iinc (v := nI (i + 3)) (lv' := [(3, .int (nI (i + 3))), (0, .ref b), (1, .ref (A 0)), (2, .ref (M 0))]) hx hb dL_law_808 hl (k := 0) rfl (by rw [show Int32.ofInt 3 = nI 3 from by decide]; exact nI_add _ _) (by decide) rfl (fun ls hl => ?_)
      refine lv_goto (tgt := 18) hx hb dL_law_811 (by decide) ?_
      exact ih (i + 3) (by omega) h3 B σ hn h r0 r1 r2 r3 r4 wt wn hf sy gp i0 i1 i2 i3 fo de hI H locs hP hD hS ls hl
    intro B σ hn h r0 r1 r2 r3 r4 wt wn hf sy gp i0 i1 i2 i3 fo de hI H locs hP hD hS ls hl
    refine lv_iload_n hx hb dL_law_18 rfl (lv_at hl 0 rfl) ?_
    refine lv_aload_n hx hb dL_law_19 rfl (lv_at hl 1 rfl) ?_
    refine va_slen hx hb hX hbl hbA hS dL_law_20 ?_
    refine lv_iconst (v := nI 3) hx hb dL_law_21 (by decide) ?_
    refine zv_isub hx hb (v := zI (((L : Nat) : Int) - 3)) dL_law_22 (by rw [show Int32.ofNat L = nI L from rfl, zI_nat, zI_nat]; exact zI_sub _ _) ?_
    refine zz_icmp_gt (tgt := 814) (a := ((i : Nat) : Int)) (b := ((L : Nat) : Int) - 3) hx hb dL_law_23 (by decide) (zt_n (by omega)) (zI_toInt (by omega) (by omega)) (fun h9 => ?_) (fun h9 => ?_)
    · refine lv_iconst (v := 1) hx hb dL_law_814 (by decide) ?_
      refine va_forget hS.2.2 ?_
      refine W.widen (k := 600000) (n := 7302250) (Nat.le_of_ble_eq_true rfl) (Nat.le_of_ble_eq_true rfl) ?_
      exact lw_ret hx hb hr hlocks dL_law_815
    · have h3 : i + 3 ≤ L := by omega
      obtain ⟨j, hj, ej⟩ := and31 (xs i)
      refine lv_aload_n hx hb dL_law_26 rfl (lv_at hl 1 rfl) ?_
      refine lv_iload_n hx hb dL_law_27 rfl (lv_at hl 0 rfl) ?_
      refine zl_sld hx hb hX hbl hbA hS (show i < L by omega) (by omega) (v := xs i) rfl dL_law_28 ?_
      refine lv_bipush (v := nI 31) hx hb dL_law_29 (by decide) ?_
      refine zv_iand hx hb (v := nI j) dL_law_31 ej ?_
      have kk := hback h3
      rcases (show j = 0 ∨ j = 1 ∨ j = 2 ∨ j = 3 ∨ j = 4 ∨ j = 5 ∨ j = 6 ∨ j = 7 ∨ j = 8 ∨ j = 9 ∨ j = 10 ∨ j = 11 ∨ j = 12 ∨ j = 13 ∨ j = 14 ∨ j = 15 ∨ j = 16 ∨ j = 17 ∨ j = 18 ∨ j = 19 ∨ j = 20 ∨ j = 21 ∨ j = 22 ∨ j = 23 ∨ j = 24 ∨ j = 25 ∨ j = 26 ∨ j = 27 ∨ j = 28 ∨ j = 29 ∨ j = 30 ∨ j = 31 by omega) with rfl | rfl | rfl | rfl | rfl | rfl | rfl | rfl | rfl | rfl | rfl | rfl | rfl | rfl | rfl | rfl | rfl | rfl | rfl | rfl | rfl | rfl | rfl | rfl | rfl | rfl | rfl | rfl | rfl | rfl | rfl | rfl
      · exact lv_tableIn (off := 136) (tgt := 168) hx hb dL_law_32 (by decide) (by decide) (by decide) (by decide) (law_0 l hL C0 hK hN h3 kk B σ hn h r0 r1 r2 r3 r4 wt wn hf sy gp i0 i1 i2 i3 fo de hI H locs hP hD hS ls hl)
      · exact lv_tableIn (off := 169) (tgt := 201) hx hb dL_law_32 (by decide) (by decide) (by decide) (by decide) (law_1 l hL C0 hK hN h3 kk B σ hn h r0 r1 r2 r3 r4 wt wn hf sy gp i0 i1 i2 i3 fo de hI H locs hP hD hS ls hl)
      · exact lv_tableIn (off := 192) (tgt := 224) hx hb dL_law_32 (by decide) (by decide) (by decide) (by decide) (law_2 l hL C0 hK hN h3 kk B σ hn h r0 r1 r2 r3 r4 wt wn hf sy gp i0 i1 i2 i3 fo de hI H locs hP hD hS ls hl)
      · exact lv_tableIn (off := 205) (tgt := 237) hx hb dL_law_32 (by decide) (by decide) (by decide) (by decide) (law_3 l hL C0 hK hN h3 kk B σ hn h r0 r1 r2 r3 r4 wt wn hf sy gp i0 i1 i2 i3 fo de hI H locs hP hD hS ls hl)
      · exact lv_tableIn (off := 228) (tgt := 260) hx hb dL_law_32 (by decide) (by decide) (by decide) (by decide) (law_4 l hL C0 hK hN h3 kk B σ hn h r0 r1 r2 r3 r4 wt wn hf sy gp i0 i1 i2 i3 fo de hI H locs hP hD hS ls hl)
      · exact lv_tableIn (off := 241) (tgt := 273) hx hb dL_law_32 (by decide) (by decide) (by decide) (by decide) (law_5 l hL C0 hK hN h3 kk B σ hn h r0 r1 r2 r3 r4 wt wn hf sy gp i0 i1 i2 i3 fo de hI H locs hP hD hS ls hl)
      · exact lv_tableIn (off := 264) (tgt := 296) hx hb dL_law_32 (by decide) (by decide) (by decide) (by decide) (law_6 l hL C0 hK hN h3 kk B σ hn h r0 r1 r2 r3 r4 wt wn hf sy gp i0 i1 i2 i3 fo de hI H locs hP hD hS ls hl)
      · exact lv_tableIn (off := 287) (tgt := 319) hx hb dL_law_32 (by decide) (by decide) (by decide) (by decide) (law_7 l hL C0 hK hN h3 kk B σ hn h r0 r1 r2 r3 r4 wt wn hf sy gp i0 i1 i2 i3 fo de hI H locs hP hD hS ls hl)
      · exact lv_tableIn (off := 320) (tgt := 352) hx hb dL_law_32 (by decide) (by decide) (by decide) (by decide) (law_8 l hL C0 hK hN h3 kk B σ hn h r0 r1 r2 r3 r4 wt wn hf sy gp i0 i1 i2 i3 fo de hI H locs hP hD hS ls hl)
      · exact lv_tableIn (off := 353) (tgt := 385) hx hb dL_law_32 (by decide) (by decide) (by decide) (by decide) (law_9 l hL C0 hK hN h3 kk B σ hn h r0 r1 r2 r3 r4 wt wn hf sy gp i0 i1 i2 i3 fo de hI H locs hP hD hS ls hl)
      · exact lv_tableIn (off := 376) (tgt := 408) hx hb dL_law_32 (by decide) (by decide) (by decide) (by decide) (law_10 l hL C0 hK hN h3 kk B σ hn h r0 r1 r2 r3 r4 wt wn hf sy gp i0 i1 i2 i3 fo de hI H locs hP hD hS ls hl)
      · exact lv_tableIn (off := 409) (tgt := 441) hx hb dL_law_32 (by decide) (by decide) (by decide) (by decide) (law_11 l hL C0 hK hN h3 kk B σ hn h r0 r1 r2 r3 r4 wt wn hf sy gp i0 i1 i2 i3 fo de hI H locs hP hD hS ls hl)
      · exact lv_tableIn (off := 442) (tgt := 474) hx hb dL_law_32 (by decide) (by decide) (by decide) (by decide) (law_12 l hL C0 hK hN h3 kk B σ hn h r0 r1 r2 r3 r4 wt wn hf sy gp i0 i1 i2 i3 fo de hI H locs hP hD hS ls hl)
      · exact lv_tableIn (off := 475) (tgt := 507) hx hb dL_law_32 (by decide) (by decide) (by decide) (by decide) (law_13 l hL C0 hK hN h3 kk B σ hn h r0 r1 r2 r3 r4 wt wn hf sy gp i0 i1 i2 i3 fo de hI H locs hP hD hS ls hl)
      · exact lv_tableIn (off := 488) (tgt := 520) hx hb dL_law_32 (by decide) (by decide) (by decide) (by decide) (law_14 l hL C0 hK hN h3 kk B σ hn h r0 r1 r2 r3 r4 wt wn hf sy gp i0 i1 i2 i3 fo de hI H locs hP hD hS ls hl)
      · exact lv_tableIn (off := 511) (tgt := 543) hx hb dL_law_32 (by decide) (by decide) (by decide) (by decide) (law_15 l hL C0 hK hN h3 kk B σ hn h r0 r1 r2 r3 r4 wt wn hf sy gp i0 i1 i2 i3 fo de hI H locs hP hD hS ls hl)
      · exact lv_tableIn (off := 524) (tgt := 556) hx hb dL_law_32 (by decide) (by decide) (by decide) (by decide) (law_16 l hL C0 hK hN h3 kk B σ hn h r0 r1 r2 r3 r4 wt wn hf sy gp i0 i1 i2 i3 fo de hI H locs hP hD hS ls hl)
      · exact lv_tableIn (off := 557) (tgt := 589) hx hb dL_law_32 (by decide) (by decide) (by decide) (by decide) (law_17 l hL C0 hK hN h3 kk B σ hn h r0 r1 r2 r3 r4 wt wn hf sy gp i0 i1 i2 i3 fo de hI H locs hP hD hS ls hl)
      · exact lv_tableIn (off := 580) (tgt := 612) hx hb dL_law_32 (by decide) (by decide) (by decide) (by decide) (law_18 l hL C0 hK hN h3 kk B σ hn h r0 r1 r2 r3 r4 wt wn hf sy gp i0 i1 i2 i3 fo de hI H locs hP hD hS ls hl)
      · exact lv_tableIn (off := 603) (tgt := 635) hx hb dL_law_32 (by decide) (by decide) (by decide) (by decide) (law_19 l hL C0 hK hN h3 kk B σ hn h r0 r1 r2 r3 r4 wt wn hf sy gp i0 i1 i2 i3 fo de hI H locs hP hD hS ls hl)
      · exact lv_tableIn (off := 626) (tgt := 658) hx hb dL_law_32 (by decide) (by decide) (by decide) (by decide) (law_20 l hL C0 hK hN h3 kk B σ hn h r0 r1 r2 r3 r4 wt wn hf sy gp i0 i1 i2 i3 fo de hI H locs hP hD hS ls hl)
      · exact lv_tableIn (off := 649) (tgt := 681) hx hb dL_law_32 (by decide) (by decide) (by decide) (by decide) (law_21 l hL C0 hK hN h3 kk B σ hn h r0 r1 r2 r3 r4 wt wn hf sy gp i0 i1 i2 i3 fo de hI H locs hP hD hS ls hl)
      · exact lv_tableIn (off := 662) (tgt := 694) hx hb dL_law_32 (by decide) (by decide) (by decide) (by decide) (law_22 l hL C0 hK hN h3 kk B σ hn h r0 r1 r2 r3 r4 wt wn hf sy gp i0 i1 i2 i3 fo de hI H locs hP hD hS ls hl)
      · exact lv_tableIn (off := 675) (tgt := 707) hx hb dL_law_32 (by decide) (by decide) (by decide) (by decide) (law_23 l hL C0 hK hN h3 kk B σ hn h r0 r1 r2 r3 r4 wt wn hf sy gp i0 i1 i2 i3 fo de hI H locs hP hD hS ls hl)
      · exact lv_tableIn (off := 688) (tgt := 720) hx hb dL_law_32 (by decide) (by decide) (by decide) (by decide) (law_24 l hL C0 hK hN h3 kk B σ hn h r0 r1 r2 r3 r4 wt wn hf sy gp i0 i1 i2 i3 fo de hI H locs hP hD hS ls hl)
      · exact lv_tableIn (off := 701) (tgt := 733) hx hb dL_law_32 (by decide) (by decide) (by decide) (by decide) (law_25 l hL C0 hK hN h3 kk B σ hn h r0 r1 r2 r3 r4 wt wn hf sy gp i0 i1 i2 i3 fo de hI H locs hP hD hS ls hl)
      · exact lv_tableIn (off := 714) (tgt := 746) hx hb dL_law_32 (by decide) (by decide) (by decide) (by decide) (law_26 l hL C0 hK hN h3 kk B σ hn h r0 r1 r2 r3 r4 wt wn hf sy gp i0 i1 i2 i3 fo de hI H locs hP hD hS ls hl)
      · exact lv_tableIn (off := 727) (tgt := 759) hx hb dL_law_32 (by decide) (by decide) (by decide) (by decide) (law_27 l hL C0 hK hN h3 kk B σ hn h r0 r1 r2 r3 r4 wt wn hf sy gp i0 i1 i2 i3 fo de hI H locs hP hD hS ls hl)
      · exact lv_tableIn (off := 740) (tgt := 772) hx hb dL_law_32 (by decide) (by decide) (by decide) (by decide) (law_28 l hL C0 hK hN h3 kk B σ hn h r0 r1 r2 r3 r4 wt wn hf sy gp i0 i1 i2 i3 fo de hI H locs hP hD hS ls hl)
      · exact lv_tableIn (off := 753) (tgt := 785) hx hb dL_law_32 (by decide) (by decide) (by decide) (by decide) (law_29 l hL C0 hK hN h3 kk B σ hn h r0 r1 r2 r3 r4 wt wn hf sy gp i0 i1 i2 i3 fo de hI H locs hP hD hS ls hl)
      · exact lv_tableOut (tgt := 808) hx hb dL_law_32 (by decide) (by decide) (kk B σ hn h r0 r1 r2 r3 r4 wt wn hf sy gp i0 i1 i2 i3 fo de hI H locs hP hD hS ls hl)
      · exact lv_tableOut (tgt := 808) hx hb dL_law_32 (by decide) (by decide) (kk B σ hn h r0 r1 r2 r3 r4 wt wn hf sy gp i0 i1 i2 i3 fo de hI H locs hP hD hS ls hl)
