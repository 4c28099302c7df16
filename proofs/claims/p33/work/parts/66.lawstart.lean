set_option maxRecDepth 100000 in
theorem zNF_in : ∀ w ∈ zNF.map zFw, w ∈ lw_tbl := z_pl [59, 60, 62, 64, 66, 68, 69, 71, 72, 74, 103, 116, 118, 145, 147, 149] (by decide +kernel)
set_option maxRecDepth 100000 in
theorem zNM_in : ∀ w ∈ zNM.map zMw, w ∈ lw_tbl := z_pl [54, 94, 100, 111, 126, 130, 140, 176, 180, 192, 196, 204, 212, 213, 250, 258, 262, 274, 282, 298, 314, 348, 352, 361, 370, 423, 424, 444, 445, 446, 459, 470] (by decide +kernel)
theorem zNw_of {s : State} {args : Array Value} (hts0 : ∀ w ∈ lw_tbl, w.before args s = true) : zNw s := ⟨fun q hq => va_Nw.of rfl (hts0 _ (zNF_in _ (List.mem_map.mpr ⟨q, hq, rfl⟩))), fun q hq => va_Nw.of rfl (hts0 _ (zNM_in _ (List.mem_map.mpr ⟨q, hq, rfl⟩)))⟩
theorem zarr_of {s : State} {args : Array Value} {ty : FieldType} (h : (Cond.arrayClass ty).before args s = true) (ht : ∀ C, ty ≠ .object C) : ∃ cA, ArrOfT s cA ty ∧ va_RA s cA ty := by
  obtain ⟨cA, kA, comp, h1, h2, h3⟩ := Cond.arrayClass_spec h
  refine ⟨cA, fun n z => ⟨fun k h => (by cases h), kA, h2, comp, h3⟩, ?_⟩
  cases ty with
  | object C => exact absurd rfl (ht C)
  | _ => exact h1
theorem zarr_ob {s : State} {args : Array Value} {C : String} (h : (Cond.arrayOver (.object C)).before args s = true) : ∃ cA, ArrOfT s cA (.object C) ∧ va_RA s cA (.object C) := by
  obtain ⟨comp, cA, kA, h1, h2, h3, h4, h5⟩ := Cond.arrayOver_spec h
  exact ⟨cA, fun n z => ⟨fun k h => (by cases h), kA, h3, comp, h4⟩, kA, comp, h3, h4, h1, h5⟩
set_option maxHeartbeats 4000000 in
set_option maxRecDepth 100000 in
theorem whole_start {p : Program} {e : Env} {s : State} {m : MethodId} {below : List Frame} {meth : Method} {c : Code} (l : Launch) (hflags : l.flags = flags0) {b L : Nat} {xs : Nat → Int32} (hL : L ≤ 260) (C0 : lw_At p s m meth c b L xs) : W p l e room_1 s m #[Value.ref b] below meth c s.heap [] 0 0 (lw_Z below #[Value.ref b] s) (entryFrame m ([Value.ref b] : List Value).toArray 14) := by
  obtain ⟨hx, hb, hr, hml, hown9, hts0, hX, hbl, hlocks, hgv⟩ := id C0
  have hown : s.vm.findClass RL = some m.cls := hown9
  have hts : ∀ w ∈ wsL_law, w.before #[Value.ref b] s = true := fun w hw => hts0 w (wsL_law_in w hw)
  have hA : ∀ q : Nat, s.heap.size ≤ q → (fun q : Nat => s.heap.size ≤ q) q := fun _ h => h
  obtain ⟨c0, iS0, hKn0⟩ := u_known (C := RX0) (T := TX0) (N := 2) (n := 2) hts0 zLi_X0 (hts0 (.instantiable RX0 2) (List.mem_of_getElem? (i := 93) (by decide +kernel)))
  obtain ⟨c1, iS1, hKn1⟩ := u_known (C := RX1) (T := TX1) (N := 2) (n := 2) hts0 zLi_X1 (hts0 (.instantiable RX1 2) (List.mem_of_getElem? (i := 110) (by decide +kernel)))
  obtain ⟨c2, iS2, hKn2⟩ := u_known (C := RX2) (T := TX2) (N := 1) (n := 1) hts0 zLi_X2 (hts0 (.instantiable RX2 1) (List.mem_of_getElem? (i := 125) (by decide +kernel)))
  obtain ⟨c3, iS3, hKn3⟩ := u_known (C := RX3) (T := TX3) (N := 8) (n := 8) hts0 zLi_X3 (hts0 (.instantiable RX3 8) (List.mem_of_getElem? (i := 139) (by decide +kernel)))
  obtain ⟨c4, iS4, hKn4⟩ := u_known (C := RX4) (T := TX4) (N := 7) (n := 7) hts0 zLi_X4 (hts0 (.instantiable RX4 7) (List.mem_of_getElem? (i := 53) (by decide +kernel)))
  obtain ⟨c5, iS5, hKn5⟩ := u_known (C := RX5) (T := TX5) (N := 7) (n := 7) hts0 zLi_X5 (hts0 (.instantiable RX5 7) (List.mem_of_getElem? (i := 45) (by decide +kernel)))
  obtain ⟨dC, dI, hKc⟩ : ∃ (dC : Nat → ClassId) (dI : Nat → Nat → Nat), ∀ (k : Nat) (q : vw_C), vwCl[k]? = some q → u_Kn s q.1 q.2.1 q.2.2 (dC k) (dI k) := by
    refine ⟨fun k => if k = 0 then c0 else if k = 1 then c1 else if k = 2 then c2 else if k = 3 then c3 else if k = 4 then c4 else c5, fun k => if k = 0 then iS0 else if k = 1 then iS1 else if k = 2 then iS2 else if k = 3 then iS3 else if k = 4 then iS4 else iS5, ?_⟩
    intro k q hq
    match k, hq with
    | 0, hq => cases hq; exact hKn0
    | 1, hq => cases hq; exact hKn1
    | 2, hq => cases hq; exact hKn2
    | 3, hq => cases hq; exact hKn3
    | 4, hq => cases hq; exact hKn4
    | 5, hq => cases hq; exact hKn5
    | k + 6, hq => simp [vwCl] at hq
  obtain ⟨y0, ha0⟩ := zarr_of (hts0 (.arrayClass .int) (List.mem_of_getElem? (i := 90) (by decide +kernel))) (fun C h => by cases h)
  obtain ⟨y1, ha1⟩ := zarr_of (hts0 (.arrayClass .boolean) (List.mem_of_getElem? (i := 91) (by decide +kernel))) (fun C h => by cases h)
  obtain ⟨y2, ha2⟩ := zarr_of (hts0 (.arrayClass .long) (List.mem_of_getElem? (i := 137) (by decide +kernel))) (fun C h => by cases h)
  obtain ⟨y4, ha4⟩ := zarr_ob (hts0 (.arrayOver (.object "NestedCodes$State")) (List.mem_of_getElem? (i := 99) (by decide +kernel)))
  have hAO : va_AO "NestedCodes$State" s := va_AO.of (hts0 (.arrayOver (.object "NestedCodes$State")) (List.mem_of_getElem? (i := 99) (by decide +kernel)))
  obtain ⟨Y, hY⟩ : ∃ Y : Nat → ClassId, ∀ (k : Nat) (q : ClassId × FieldType), (zT Y)[k]? = some q → ArrOfT s q.1 q.2 ∧ va_RA s q.1 q.2 := by
    refine ⟨fun k => if k = 0 then y0 else if k = 1 then y1 else if k = 2 then y2 else if k = 3 then y0 else y4, ?_⟩
    intro k q hq
    match k, hq with
    | 0, hq => cases hq; exact ha0
    | 1, hq => cases hq; exact ha1
    | 2, hq => cases hq; exact ha2
    | 3, hq => cases hq; exact ha0
    | 4, hq => cases hq; exact ha4
    | k + 5, hq => simp at hq
  have hK : va_K (dC, dI) vwCl (zT Y) s := ⟨hKc, hY⟩
  have hN : zNw s := zNw_of hts0
  have hS : va_S (fun q : Nat => s.heap.size ≤ q) s.heap s.heap [] := va_S.rf
  have hP : va_P (dC, dI) vwCl [] s.heap := fun k q h => by simp at h
  have hD : va_D (fun q : Nat => s.heap.size ≤ q) [] := ⟨fun i j p q h => by simp at h, fun k q h => by simp at h⟩
  generalize (dC, dI) = D at hK hP
  have hl := lv_entry ([.ref b]) (n := 14) (Nat.le_of_ble_eq_true rfl)
  rw [lg_entry_eq]
  generalize (lg_sl ([.ref b]) ++ List.replicate (14 - (lg_sl ([.ref b])).length) Slot.unset).toArray = ls at hl ⊢
  have hl : lv_has ls 14 [(0, .ref b)] := hl
  refine va_new (ci := 5) (fs := [.null, .null, .null, .null, .null, .null, .int 0]) (C := RX5) (T := TX5) (N := 7) hx hb hts0 zLi_X5 tyX5 tyX5_ok hown (hts0 (.classLink RL 10 RX5) (List.mem_of_getElem? (i := 44) (by decide +kernel))) (hts0 (.instantiable RX5 7) (List.mem_of_getElem? (i := 45) (by decide +kernel))) (hts0 (.initialized RX5) (List.mem_of_getElem? (i := 35) (by decide +kernel))) hK hP hD hS hA rfl (fun j hj => by rcases (show j = 0 ∨ j = 1 ∨ j = 2 ∨ j = 3 ∨ j = 4 ∨ j = 5 ∨ j = 6 by omega) with rfl | rfl | rfl | rfl | rfl | rfl | rfl <;> rfl) (Nat.le_of_ble_eq_true rfl) (Nat.le_of_ble_eq_true rfl) dL_law_0 (fun q0 H hP hD hS => ?_)
  refine W.widen (k := 1) (n := 7) (Nat.le_refl _) (Nat.le_refl _) ?_
  have hP : va_P D vwCl ([(q0, .inr (5, [.null, .null, .null, .null, .null, .null, .int 0]))]) H := hP
  have hD : va_D (fun q : Nat => s.heap.size ≤ q) ([(q0, .inr (5, [.null, .null, .null, .null, .null, .null, .int 0]))]) := hD
  refine lv_dup hx hb dL_law_3 rfl ?_
  refine zc_n (wc := [(q0, .inr (5, [.null, .null, .null, .null, .null, .null, .int 0]))]) (wr := []) (va_runI (As := []) (rest := [.ref q0]) ⟨hx, hb, hml, hown, hts⟩ (c_X5_init l D Y q0 H.size) (cwI 0 hts gL_law_X5_init rfl rfl rfl (hts0 (.initialized RX5) (List.mem_of_getElem? (i := 35) (by decide +kernel))) (hts0 (.methodLink RL 74 yX5_init) (List.mem_of_getElem? (i := 46) (by decide +kernel))) (hts0 (.instanceMethod yX5_init) (List.mem_of_getElem? (i := 47) (by decide +kernel))) rfl (by decide +kernel) ⟨Nat.le_of_ble_eq_true rfl, Nat.le_of_ble_eq_true rfl⟩) ⟨zBn_blind, zp_n (hP.sub (ws' := [(q0, .inr (5, [.null, .null, .null, .null, .null, .null, .int 0]))]) [0] rfl) (hD.sub (ws' := [(q0, .inr (5, [.null, .null, .null, .null, .null, .null, .int 0]))]) [0] (by decide) rfl) hK hN hAO⟩ rfl rfl hl.1 rfl (lv_room (Nat.le_of_ble_eq_true rfl)) dL_law_4 ⟨Nat.le_of_ble_eq_true rfl, Nat.le_of_ble_eq_true rfl⟩) hP hD hS hA [0] [] rfl rfl (by decide) (by decide) (fun u H locs hP hD hS => ?_)
  refine W.widen (k := 42) (n := 399) (Nat.le_refl _) (Nat.le_refl _) ?_
  have hP : va_P D vwCl (CX Y (zsc q0 u) (fun k9 => u (k9 + 18)) st0 0 (fun _ => st0) (wdS st0) (ddS st0) (ag0 st0 (fun _ => 0)) (ag1 st0 (fun _ => 0)) (ag2 st0 (fun _ => 0)) (ag3 st0 (fun _ => 0) (fun _ => 0)) (ag4 st0 (fun _ => 0) (fun _ => 0)) (st0 0) (pak (itC (wdS st0) st0) (st0 0)) (mkP (fun k9 => decide (k9 < st0 0))) (fun _ => 0) 0) H := hP
  have hD : va_D (fun q : Nat => s.heap.size ≤ q) (CX Y (zsc q0 u) (fun k9 => u (k9 + 18)) st0 0 (fun _ => st0) (wdS st0) (ddS st0) (ag0 st0 (fun _ => 0)) (ag1 st0 (fun _ => 0)) (ag2 st0 (fun _ => 0)) (ag3 st0 (fun _ => 0) (fun _ => 0)) (ag4 st0 (fun _ => 0) (fun _ => 0)) (st0 0) (pak (itC (wdS st0) st0) (st0 0)) (mkP (fun k9 => decide (k9 < st0 0))) (fun _ => 0) 0) := hD
  refine lv_astore_n (lv' := [(1, .ref q0), (0, .ref b)]) hx hb dL_law_7 rfl hl (by decide) rfl (fun ls hl => ?_)
  have hl : lv_has ls 14 [(1, .ref (zsc q0 u 0)), (0, .ref b)] := hl
  exact law_main l hL C0 hK hN _ rfl _ _ _ _ _ _ _ _ _ _ _ _ zWF_st0 (zCon_ag _ _ _ _ _ _) (Nat.zero_le 6) (fun i hi => absurd hi (Nat.not_lt_zero i)) (by decide) rfl H locs hP hD hS ls hl
