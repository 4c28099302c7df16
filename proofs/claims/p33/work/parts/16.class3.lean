theorem kN_X3_55 {args : Array Value} {s : State} (hN : zNw s) : (Cond.fieldLinkNest RX3 55 "NestedCodes$State" "lost" "[Z" "NestedCodes").before args s = true := va_Nw.use (w := Cond.fieldLinkNest RX3 55 "NestedCodes$State" "lost" "[Z" "NestedCodes") rfl (show va_Nw (Cond.fieldLinkNest RX3 55 "NestedCodes$State" "lost" "[Z" "NestedCodes") s from hN.1 ("NestedCodes$Reading", 55, "NestedCodes$State", "lost", "[Z", "NestedCodes") (by decide +kernel))
theorem kN_X3_59 {args : Array Value} {s : State} (hN : zNw s) : (Cond.fieldLinkNest RX3 59 "NestedCodes$State" "words" "[I" "NestedCodes").before args s = true := va_Nw.use (w := Cond.fieldLinkNest RX3 59 "NestedCodes$State" "words" "[I" "NestedCodes") rfl (show va_Nw (Cond.fieldLinkNest RX3 59 "NestedCodes$State" "words" "[I" "NestedCodes") s from hN.1 ("NestedCodes$Reading", 59, "NestedCodes$State", "words", "[I", "NestedCodes") (by decide +kernel))
theorem kM_X3_62 {s : State} (hN : zNw s) : va_Nw (Cond.methodLinkNest RX3 62 yX1_symbolOf "NestedCodes") s := show va_Nw (Cond.methodLinkNest RX3 62 yX1_symbolOf "NestedCodes") s from hN.2 ("NestedCodes$Reading", 62, yX1_symbolOf, "NestedCodes") (by decide +kernel)
theorem kM_X3_67 {s : State} (hN : zNw s) : va_Nw (Cond.methodLinkNest RX3 67 yX1_bitsBetween "NestedCodes") s := show va_Nw (Cond.methodLinkNest RX3 67 yX1_bitsBetween "NestedCodes") s from hN.2 ("NestedCodes$Reading", 67, yX1_bitsBetween, "NestedCodes") (by decide +kernel)
theorem kM_X3_71 {s : State} (hN : zNw s) : va_Nw (Cond.methodLinkNest RX3 71 yX1_reliability "NestedCodes") s := show va_Nw (Cond.methodLinkNest RX3 71 yX1_reliability "NestedCodes") s from hN.2 ("NestedCodes$Reading", 71, yX1_reliability, "NestedCodes") (by decide +kernel)
theorem kM_X3_76 {s : State} (hN : zNw s) : va_Nw (Cond.methodLinkNest RX3 76 yX2_markSymbols "NestedCodes") s := show va_Nw (Cond.methodLinkNest RX3 76 yX2_markSymbols "NestedCodes") s from hN.2 ("NestedCodes$Reading", 76, yX2_markSymbols, "NestedCodes") (by decide +kernel)
theorem kN_X3_38 {args : Array Value} {s : State} (hN : zNw s) : (Cond.fieldLinkNest RX3 38 "NestedCodes$State" "length" "I" "NestedCodes").before args s = true := va_Nw.use (w := Cond.fieldLinkNest RX3 38 "NestedCodes$State" "length" "I" "NestedCodes") rfl (show va_Nw (Cond.fieldLinkNest RX3 38 "NestedCodes$State" "length" "I" "NestedCodes") s from hN.1 ("NestedCodes$Reading", 38, "NestedCodes$State", "length", "I", "NestedCodes") (by decide +kernel))
theorem kM_X3_41 {s : State} (hN : zNw s) : va_Nw (Cond.methodLinkNest RX3 41 yX2_marks "NestedCodes") s := show va_Nw (Cond.methodLinkNest RX3 41 yX2_marks "NestedCodes") s from hN.2 ("NestedCodes$Reading", 41, yX2_marks, "NestedCodes") (by decide +kernel)
theorem kN_X5_75 {args : Array Value} {s : State} (hN : zNw s) : (Cond.fieldLinkNest RX5 75 "NestedCodes$State" "generators" "[I" "NestedCodes").before args s = true := va_Nw.use (w := Cond.fieldLinkNest RX5 75 "NestedCodes$State" "generators" "[I" "NestedCodes") rfl (show va_Nw (Cond.fieldLinkNest RX5 75 "NestedCodes$State" "generators" "[I" "NestedCodes") s from hN.1 ("NestedCodes", 75, "NestedCodes$State", "generators", "[I", "NestedCodes") (by decide +kernel))
theorem kM_X5_203 {s : State} (hN : zNw s) : va_Nw (Cond.methodLinkNest RX5 203 yX1_setGenerators "NestedCodes") s := show va_Nw (Cond.methodLinkNest RX5 203 yX1_setGenerators "NestedCodes") s from hN.2 ("NestedCodes", 203, yX1_setGenerators, "NestedCodes") (by decide +kernel)
theorem kM_X5_207 {s : State} (hN : zNw s) : va_Nw (Cond.methodLinkNest RX5 207 yX3_read "NestedCodes") s := show va_Nw (Cond.methodLinkNest RX5 207 yX3_read "NestedCodes") s from hN.2 ("NestedCodes", 207, yX3_read, "NestedCodes") (by decide +kernel)
theorem qX3_readBlock_inX4 : ∀ w ∈ wsX40, w ∈ wsX3_readBlock := by decide +kernel
theorem qX3_readBlock_Cond_fieldLink_RX3_9_NestedCodes_Reading_symbols_I_ : Cond.fieldLink RX3 9 "NestedCodes$Reading" "symbols" "[I" ∈ wsX3_readBlock := by decide +kernel
theorem qX3_readBlock_inX3 : ∀ w ∈ wsX30, w ∈ wsX3_readBlock := by decide +kernel
theorem qX3_readBlock_Cond_initialized_RX1 : Cond.initialized RX1 ∈ wsX3_readBlock := by decide +kernel
theorem qX3_readBlock_Cond_instanceMethod_yX1_symbolOf : Cond.instanceMethod yX1_symbolOf ∈ wsX3_readBlock := by decide +kernel
theorem qX3_readBlock_Cond_selects_RX1_yX1_symbolOf_yX1_symbolOf : Cond.selects RX1 yX1_symbolOf yX1_symbolOf ∈ wsX3_readBlock := by decide +kernel
theorem qX3_readBlock_Cond_fieldLink_RX3_15_NestedCodes_Reading_gaps_I_ : Cond.fieldLink RX3 15 "NestedCodes$Reading" "gaps" "[I" ∈ wsX3_readBlock := by decide +kernel
theorem qX3_readBlock_Cond_instanceMethod_yX1_bitsBetween : Cond.instanceMethod yX1_bitsBetween ∈ wsX3_readBlock := by decide +kernel
theorem qX3_readBlock_Cond_selects_RX1_yX1_bitsBetween_yX1_bitsBetween : Cond.selects RX1 yX1_bitsBetween yX1_bitsBetween ∈ wsX3_readBlock := by decide +kernel
theorem qX3_readBlock_Cond_fieldLink_RX3_18_NestedCodes_Reading_reliabilities_I_ : Cond.fieldLink RX3 18 "NestedCodes$Reading" "reliabilities" "[I" ∈ wsX3_readBlock := by decide +kernel
theorem qX3_readBlock_Cond_instanceMethod_yX1_reliability : Cond.instanceMethod yX1_reliability ∈ wsX3_readBlock := by decide +kernel
theorem qX3_readBlock_Cond_selects_RX1_yX1_reliability_yX1_reliability : Cond.selects RX1 yX1_reliability yX1_reliability ∈ wsX3_readBlock := by decide +kernel
set_option maxHeartbeats 4000000 in
set_option maxRecDepth 100000 in
theorem c_X3_readBlock (l : Launch) (D : va_G) (Y : Nat → ClassId) (A : Nat → Nat) (B : Nat → Nat) (σ : Nat → Nat) (hn : Nat) (h : Nat → Nat → Nat) (wd : Nat → Nat) (dd : Nat) (r0 : Nat → Nat) (r1 : Nat → Nat) (r2 : Nat → Nat) (r3 : Nat → Nat) (r4 : Nat → Nat) (rl : Nat) (rp : Nat) (rb : Nat) (wt : Nat → Nat) (wn : Nat) (j : Nat)  (hj : j < 12) (kw9 : ∀ j, j < 12 → σ (9 + j) < 1024) (kwd : ∀ j, j < 16 → wd j < 1024) (kdd : dd ≤ 12) : Met l yX3_readBlock wsX3_readBlock ({ frames := 3, cells := 0, slots := 0, locals := 65 } : Room) (va_Pc [.ref (A 11), .int (nI j), .ref (A 1), .ref (A 7)] (zBw D Y (CX Y A B σ hn h wd dd r0 r1 r2 r3 r4 rl rp rb wt wn))) (zW none D (CX Y A B σ hn h wd dd (va_up r0 j (itC wd σ j)) (va_up r1 j (faC wd σ j)) (va_up r2 j (trC wd dd σ j)) r3 r4 rl rp rb wt wn) (zA (CX Y A B σ hn h wd dd r0 r1 r2 r3 r4 rl rp rb wt wn))) 0 0 (zA (CX Y A B σ hn h wd dd r0 r1 r2 r3 r4 rl rp rb wt wn)) := by
  refine zw_of (cc := cX3_readBlock) (maxL := 5) (ret := none) (by decide) rfl (Nat.le_of_ble_eq_true rfl) ?_
  intro p e s m below meth c R args Q FA hR hx hb hml hr hlk hown hts hK hN hQ hP hD hS ls hl
  have hown : s.vm.findClass RX3 = some m.cls := hown
  have hl : lv_has ls 5 [(0, .ref (A 11)), (1, .int (nI j)), (2, .ref (A 1)), (3, .ref (A 7))] := hl
  have hS := hS
  suffices hgo : ∀ (H : Heap) (locs : List Loc), va_P D vwCl (CX Y A B σ hn h wd dd r0 r1 r2 r3 r4 rl rp rb wt wn) H → va_S FA s.heap H locs → W p l e R s m args below meth c H locs 0 0 Q (F0 m 0 ls []) from hgo _ _ hP hS
  clear hP hS
  intro H locs hP hS
  have hz := zL_01 (σ 7) j
  refine lv_aload_n hx hb dX3_readBlock_0 rfl (lv_at hl 2 rfl) ?_
  refine va_getN (D := D) (ci := 4) (v := .ref (A 4)) (C := RX4) (T := TX4) (N := 7) hx hb hts qX3_readBlock_inX4 hown hK hP 1 rfl rfl 5 (by decide) (kN_X3_55 hN) (fun _ h9 => h9) rfl dX3_readBlock_1 ?_
  refine lv_iload_n hx hb dX3_readBlock_4 rfl (lv_at hl 1 rfl) ?_
  refine za_z hx hb hK hP 4 (f := fun k9 => nI (zL (σ 7) k9)) (v := (nI (zL (σ 7) j))) rfl (by omega) (by decide) dX3_readBlock_5 (rfl) ?_
  refine zn_if_eq (tgt := 33)  hx hb dX3_readBlock_6 (by decide) (by omega) (fun c6 => ?_) (fun c6 => ?_)
  · refine lv_aload_n hx hb dX3_readBlock_33 rfl (lv_at hl 2 rfl) ?_
    refine va_getN (D := D) (ci := 4) (v := .ref (A 3)) (C := RX4) (T := TX4) (N := 7) hx hb hts qX3_readBlock_inX4 hown hK hP 1 rfl rfl 4 (by decide) (kN_X3_59 hN) (fun _ h9 => h9) rfl dX3_readBlock_34 ?_
    refine lv_iload_n hx hb dX3_readBlock_37 rfl (lv_at hl 1 rfl) ?_
    refine za_i hx hb hK hP 3 (f := fun k9 => nI (σ (9 + k9))) (v := (nI (σ (9 + j)))) rfl (by omega) (by decide) dX3_readBlock_38 (rfl) ?_
    refine lv_istore (lv' := [(4, .int (nI (σ (9 + j)))), (0, .ref (A 11)), (1, .int (nI j)), (2, .ref (A 1)), (3, .ref (A 7))]) hx hb dX3_readBlock_39 hl (by decide) rfl (fun ls hl => ?_)
    refine lv_aload_n hx hb dX3_readBlock_41 rfl (lv_at hl 1 rfl) ?_
    refine va_get (D := D) (ci := 3) (v := .ref (A 12)) (C := RX3) (T := TX3) (N := 8) hx hb hts qX3_readBlock_inX3 hown hK hP 11 rfl rfl 0 (by decide) (hts _ qX3_readBlock_Cond_fieldLink_RX3_9_NestedCodes_Reading_symbols_I_) (fun _ h9 => h9) rfl dX3_readBlock_42 ?_
    refine lv_iload_n hx hb dX3_readBlock_45 rfl (lv_at hl 2 rfl) ?_
    refine lv_aload_n hx hb dX3_readBlock_46 rfl (lv_at hl 4 rfl) ?_
    refine lv_iload hx hb dX3_readBlock_47 (lv_at hl 0 rfl) ?_
    refine zc_r (va_runVN (C := RX1) (As := [.int (nI (σ (9 + j)))]) (rest := [.int (nI j), .ref (A 12)]) ⟨hx, hb, hml, hown, hts⟩ (c_X1_symbolOf l D Y A B σ hn h wd dd r0 r1 r2 r3 r4 rl rp rb wt wn (σ (9 + j)) (kw9 j hj) kwd) ⟨(va_cnB 1 hts gX3_readBlock_X1_symbolOf_n62 rfl rfl rfl (kM_X3_62 hN) (hts _ qX3_readBlock_Cond_initialized_RX1) (by decide +kernel) (by rw [hR]; exact ⟨Nat.le_of_ble_eq_true rfl, Nat.le_of_ble_eq_true rfl⟩)), (hts _ qX3_readBlock_Cond_instanceMethod_yX1_symbolOf), (hts _ qX3_readBlock_Cond_selects_RX1_yX1_symbolOf_yX1_symbolOf)⟩ ⟨zB_blind, va_recv hK hP (ci := 1) (q0 := 7) rfl rfl, zp_r hP hK hN⟩ rfl rfl hl.1 rfl (lv_room (Nat.le_of_ble_eq_true rfl)) dX3_readBlock_49 ⟨Nat.zero_le _, Nat.zero_le _⟩).run ?_
    have hs49 := sym_le wd (σ (9 + j)) 15
    refine zs_i hx hb hK hP hD hS 12 (f := fun k9 => nI (r0 k9)) rfl (by omega) (by decide) dX3_readBlock_52 (fun H locs hP hD9 hS => ?_)
    rw [zupd] at hP
    rw [CX_s12] at hP
    have hP : va_P D vwCl (CX Y A B σ hn h wd dd (va_up r0 j (sym wd (σ (9 + j)) 15)) r1 r2 r3 r4 rl rp rb wt wn) H := hP
    have hD : va_D FA (CX Y A B σ hn h wd dd (va_up r0 j (sym wd (σ (9 + j)) 15)) r1 r2 r3 r4 rl rp rb wt wn) := CX_dd hD
    clear hD9
    refine lv_aload_n hx hb dX3_readBlock_53 rfl (lv_at hl 1 rfl) ?_
    refine va_get (D := D) (ci := 3) (v := .ref (A 13)) (C := RX3) (T := TX3) (N := 8) hx hb hts qX3_readBlock_inX3 hown hK hP 11 rfl rfl 1 (by decide) (hts _ qX3_readBlock_Cond_fieldLink_RX3_15_NestedCodes_Reading_gaps_I_) (fun _ h9 => h9) rfl dX3_readBlock_54 ?_
    refine lv_iload_n hx hb dX3_readBlock_57 rfl (lv_at hl 2 rfl) ?_
    refine lv_aload_n hx hb dX3_readBlock_58 rfl (lv_at hl 4 rfl) ?_
    refine lv_iload hx hb dX3_readBlock_59 (lv_at hl 0 rfl) ?_
    refine lv_aload_n hx hb dX3_readBlock_61 rfl (lv_at hl 1 rfl) ?_
    refine va_get (D := D) (ci := 3) (v := .ref (A 12)) (C := RX3) (T := TX3) (N := 8) hx hb hts qX3_readBlock_inX3 hown hK hP 11 rfl rfl 0 (by decide) (hts _ qX3_readBlock_Cond_fieldLink_RX3_9_NestedCodes_Reading_symbols_I_) (fun _ h9 => h9) rfl dX3_readBlock_62 ?_
    refine lv_iload_n hx hb dX3_readBlock_65 rfl (lv_at hl 2 rfl) ?_
    refine za_i hx hb hK hP 12 (f := fun k9 => nI ((va_up r0 j (sym wd (σ (9 + j)) 15)) k9)) (v := (nI ((sym wd (σ (9 + j)) 15)))) rfl (by omega) (by decide) dX3_readBlock_66 (by rw [zu_eq]) ?_
    refine zc_r (va_runVN (C := RX1) (As := [.int (nI (σ (9 + j))), .int (nI ((sym wd (σ (9 + j)) 15)))]) (rest := [.int (nI j), .ref (A 13)]) ⟨hx, hb, hml, hown, hts⟩ (c_X1_bitsBetween l D Y A B σ hn h wd dd (va_up r0 j (sym wd (σ (9 + j)) 15)) r1 r2 r3 r4 rl rp rb wt wn (σ (9 + j)) ((sym wd (σ (9 + j)) 15)) (kw9 j hj) (by omega) kwd) ⟨(va_cnB 2 hts gX3_readBlock_X1_bitsBetween_n67 rfl rfl rfl (kM_X3_67 hN) (hts _ qX3_readBlock_Cond_initialized_RX1) (by decide +kernel) (by rw [hR]; exact ⟨Nat.le_of_ble_eq_true rfl, Nat.le_of_ble_eq_true rfl⟩)), (hts _ qX3_readBlock_Cond_instanceMethod_yX1_bitsBetween), (hts _ qX3_readBlock_Cond_selects_RX1_yX1_bitsBetween_yX1_bitsBetween)⟩ ⟨zB_blind, va_recv hK hP (ci := 1) (q0 := 7) rfl rfl, zp_r hP hK hN⟩ rfl rfl hl.1 rfl (lv_room (Nat.le_of_ble_eq_true rfl)) dX3_readBlock_67 ⟨Nat.zero_le _, Nat.zero_le _⟩).run ?_
    have hp67 := popc_le ((σ (9 + j)) ^^^ wd (sym wd (σ (9 + j)) 15))
    refine zs_i hx hb hK hP hD hS 13 (f := fun k9 => nI (r1 k9)) rfl (by omega) (by decide) dX3_readBlock_70 (fun H locs hP hD9 hS => ?_)
    rw [zupd] at hP
    rw [CX_s13] at hP
    have hP : va_P D vwCl (CX Y A B σ hn h wd dd (va_up r0 j (sym wd (σ (9 + j)) 15)) (va_up r1 j (popc ((σ (9 + j)) ^^^ wd (sym wd (σ (9 + j)) 15)))) r2 r3 r4 rl rp rb wt wn) H := hP
    have hD : va_D FA (CX Y A B σ hn h wd dd (va_up r0 j (sym wd (σ (9 + j)) 15)) (va_up r1 j (popc ((σ (9 + j)) ^^^ wd (sym wd (σ (9 + j)) 15)))) r2 r3 r4 rl rp rb wt wn) := CX_dd hD
    clear hD9
    refine lv_aload_n hx hb dX3_readBlock_71 rfl (lv_at hl 1 rfl) ?_
    refine va_get (D := D) (ci := 3) (v := .ref (A 14)) (C := RX3) (T := TX3) (N := 8) hx hb hts qX3_readBlock_inX3 hown hK hP 11 rfl rfl 2 (by decide) (hts _ qX3_readBlock_Cond_fieldLink_RX3_18_NestedCodes_Reading_reliabilities_I_) (fun _ h9 => h9) rfl dX3_readBlock_72 ?_
    refine lv_iload_n hx hb dX3_readBlock_75 rfl (lv_at hl 2 rfl) ?_
    refine lv_aload_n hx hb dX3_readBlock_76 rfl (lv_at hl 4 rfl) ?_
    refine lv_aload_n hx hb dX3_readBlock_77 rfl (lv_at hl 1 rfl) ?_
    refine va_get (D := D) (ci := 3) (v := .ref (A 13)) (C := RX3) (T := TX3) (N := 8) hx hb hts qX3_readBlock_inX3 hown hK hP 11 rfl rfl 1 (by decide) (hts _ qX3_readBlock_Cond_fieldLink_RX3_15_NestedCodes_Reading_gaps_I_) (fun _ h9 => h9) rfl dX3_readBlock_78 ?_
    refine lv_iload_n hx hb dX3_readBlock_81 rfl (lv_at hl 2 rfl) ?_
    refine za_i hx hb hK hP 13 (f := fun k9 => nI ((va_up r1 j (popc ((σ (9 + j)) ^^^ wd (sym wd (σ (9 + j)) 15)))) k9)) (v := (nI (popc (σ (9 + j) ^^^ wd (sym wd (σ (9 + j)) 15))))) rfl (by omega) (by decide) dX3_readBlock_82 (by rw [zu_eq]) ?_
    refine zc_r (va_runVN (C := RX1) (As := [.int (nI (popc (σ (9 + j) ^^^ wd (sym wd (σ (9 + j)) 15))))]) (rest := [.int (nI j), .ref (A 14)]) ⟨hx, hb, hml, hown, hts⟩ (c_X1_reliability l D Y A B σ hn h wd dd (va_up r0 j (sym wd (σ (9 + j)) 15)) (va_up r1 j (popc ((σ (9 + j)) ^^^ wd (sym wd (σ (9 + j)) 15)))) r2 r3 r4 rl rp rb wt wn (popc (σ (9 + j) ^^^ wd (sym wd (σ (9 + j)) 15))) (by omega) kdd) ⟨(va_cnB 1 hts gX3_readBlock_X1_reliability_n71 rfl rfl rfl (kM_X3_71 hN) (hts _ qX3_readBlock_Cond_initialized_RX1) (by decide +kernel) (by rw [hR]; exact ⟨Nat.le_of_ble_eq_true rfl, Nat.le_of_ble_eq_true rfl⟩)), (hts _ qX3_readBlock_Cond_instanceMethod_yX1_reliability), (hts _ qX3_readBlock_Cond_selects_RX1_yX1_reliability_yX1_reliability)⟩ ⟨zB_blind, va_recv hK hP (ci := 1) (q0 := 7) rfl rfl, zp_r hP hK hN⟩ rfl rfl hl.1 rfl (lv_room (Nat.le_of_ble_eq_true rfl)) dX3_readBlock_83 ⟨Nat.zero_le _, Nat.zero_le _⟩).run ?_
    refine zs_i hx hb hK hP hD hS 14 (f := fun k9 => nI (r2 k9)) rfl (by omega) (by decide) dX3_readBlock_86 (fun H locs hP hD9 hS => ?_)
    rw [zupd] at hP
    rw [CX_s14] at hP
    have hP : va_P D vwCl (CX Y A B σ hn h wd dd (va_up r0 j (sym wd (σ (9 + j)) 15)) (va_up r1 j (popc ((σ (9 + j)) ^^^ wd (sym wd (σ (9 + j)) 15)))) (va_up r2 j (dd - 2 * (popc (σ (9 + j) ^^^ wd (sym wd (σ (9 + j)) 15))))) r3 r4 rl rp rb wt wn) H := hP
    have hD : va_D FA (CX Y A B σ hn h wd dd (va_up r0 j (sym wd (σ (9 + j)) 15)) (va_up r1 j (popc ((σ (9 + j)) ^^^ wd (sym wd (σ (9 + j)) 15)))) (va_up r2 j (dd - 2 * (popc (σ (9 + j) ^^^ wd (sym wd (σ (9 + j)) 15))))) r3 r4 rl rp rb wt wn) := CX_dd hD
    clear hD9
    exact zw_v hx hb hr hlk hQ hS dX3_readBlock_87 (by rw [show itC wd σ j = (sym wd (σ (9 + j)) 15) from if_neg (by omega), show trC wd dd σ j = dd - 2 * faC wd σ j from if_neg (by omega), show faC wd σ j = popc (σ (9 + j) ^^^ wd (sym wd (σ (9 + j)) 15)) from if_neg (by omega)]; exact hP)
  · refine lv_aload_n hx hb dX3_readBlock_9 rfl (lv_at hl 0 rfl) ?_
    refine va_get (D := D) (ci := 3) (v := .ref (A 12)) (C := RX3) (T := TX3) (N := 8) hx hb hts qX3_readBlock_inX3 hown hK hP 11 rfl rfl 0 (by decide) (hts _ qX3_readBlock_Cond_fieldLink_RX3_9_NestedCodes_Reading_symbols_I_) (fun _ h9 => h9) rfl dX3_readBlock_10 ?_
    refine lv_iload_n hx hb dX3_readBlock_13 rfl (lv_at hl 1 rfl) ?_
    refine lv_iconst (v := (nI 0)) hx hb dX3_readBlock_14 (by decide) ?_
    refine zs_i hx hb hK hP hD hS 12 (f := fun k9 => nI (r0 k9)) rfl (by omega) (by decide) dX3_readBlock_15 (fun H locs hP hD9 hS => ?_)
    rw [zupd] at hP
    rw [CX_s12] at hP
    have hP : va_P D vwCl (CX Y A B σ hn h wd dd (va_up r0 j 0) r1 r2 r3 r4 rl rp rb wt wn) H := hP
    have hD : va_D FA (CX Y A B σ hn h wd dd (va_up r0 j 0) r1 r2 r3 r4 rl rp rb wt wn) := CX_dd hD
    clear hD9
    refine lv_aload_n hx hb dX3_readBlock_16 rfl (lv_at hl 0 rfl) ?_
    refine va_get (D := D) (ci := 3) (v := .ref (A 13)) (C := RX3) (T := TX3) (N := 8) hx hb hts qX3_readBlock_inX3 hown hK hP 11 rfl rfl 1 (by decide) (hts _ qX3_readBlock_Cond_fieldLink_RX3_15_NestedCodes_Reading_gaps_I_) (fun _ h9 => h9) rfl dX3_readBlock_17 ?_
    refine lv_iload_n hx hb dX3_readBlock_20 rfl (lv_at hl 1 rfl) ?_
    refine lv_iconst (v := (nI 0)) hx hb dX3_readBlock_21 (by decide) ?_
    refine zs_i hx hb hK hP hD hS 13 (f := fun k9 => nI (r1 k9)) rfl (by omega) (by decide) dX3_readBlock_22 (fun H locs hP hD9 hS => ?_)
    rw [zupd] at hP
    rw [CX_s13] at hP
    have hP : va_P D vwCl (CX Y A B σ hn h wd dd (va_up r0 j 0) (va_up r1 j 0) r2 r3 r4 rl rp rb wt wn) H := hP
    have hD : va_D FA (CX Y A B σ hn h wd dd (va_up r0 j 0) (va_up r1 j 0) r2 r3 r4 rl rp rb wt wn) := CX_dd hD
    clear hD9
    refine lv_aload_n hx hb dX3_readBlock_23 rfl (lv_at hl 0 rfl) ?_
    refine va_get (D := D) (ci := 3) (v := .ref (A 14)) (C := RX3) (T := TX3) (N := 8) hx hb hts qX3_readBlock_inX3 hown hK hP 11 rfl rfl 2 (by decide) (hts _ qX3_readBlock_Cond_fieldLink_RX3_18_NestedCodes_Reading_reliabilities_I_) (fun _ h9 => h9) rfl dX3_readBlock_24 ?_
    refine lv_iload_n hx hb dX3_readBlock_27 rfl (lv_at hl 1 rfl) ?_
    refine lv_iconst (v := (nI 0)) hx hb dX3_readBlock_28 (by decide) ?_
    refine zs_i hx hb hK hP hD hS 14 (f := fun k9 => nI (r2 k9)) rfl (by omega) (by decide) dX3_readBlock_29 (fun H locs hP hD9 hS => ?_)
    rw [zupd] at hP
    rw [CX_s14] at hP
    have hP : va_P D vwCl (CX Y A B σ hn h wd dd (va_up r0 j 0) (va_up r1 j 0) (va_up r2 j 0) r3 r4 rl rp rb wt wn) H := hP
    have hD : va_D FA (CX Y A B σ hn h wd dd (va_up r0 j 0) (va_up r1 j 0) (va_up r2 j 0) r3 r4 rl rp rb wt wn) := CX_dd hD
    clear hD9
    refine lv_goto (tgt := 87) hx hb dX3_readBlock_30 (by decide) ?_
    exact zw_v hx hb hr hlk hQ hS dX3_readBlock_87 (by rw [show itC wd σ j = 0 from if_pos (by omega), show faC wd σ j = 0 from if_pos (by omega), show trC wd dd σ j = 0 from if_pos (by omega)]; exact hP)
theorem qX3_blocksBefore_Cond_fieldLink_RX3_27_NestedCodes_Reading_length_I_ : Cond.fieldLink RX3 27 "NestedCodes$Reading" "length" "I" ∈ wsX3_blocksBefore := by decide +kernel
theorem qX3_blocksBefore_inX3 : ∀ w ∈ wsX30, w ∈ wsX3_blocksBefore := by decide +kernel
theorem qX3_blocksBefore_Cond_fieldLink_RX3_18_NestedCodes_Reading_reliabilities_I_ : Cond.fieldLink RX3 18 "NestedCodes$Reading" "reliabilities" "[I" ∈ wsX3_blocksBefore := by decide +kernel
set_option maxHeartbeats 4000000 in
set_option maxRecDepth 100000 in
theorem c_X3_blocksBefore (l : Launch) (D : va_G) (Y : Nat → ClassId) (A : Nat → Nat) (B : Nat → Nat) (σ : Nat → Nat) (hn : Nat) (h : Nat → Nat → Nat) (wd : Nat → Nat) (dd : Nat) (r0 : Nat → Nat) (r1 : Nat → Nat) (r2 : Nat → Nat) (r3 : Nat → Nat) (r4 : Nat → Nat) (rl : Nat) (rp : Nat) (rb : Nat) (wt : Nat → Nat) (wn : Nat) (j : Nat)  (hj : j < rl) (krl : rl ≤ 12) (kr2 : ∀ j, j < rl → r2 j < 1000) : Met l yX3_blocksBefore wsX3_blocksBefore ({ frames := 0, cells := 0, slots := 0, locals := 0 } : Room) (va_Pc [.ref (A 11), .int (nI j)] (zB D Y (CX Y A B σ hn h wd dd r0 r1 r2 r3 r4 rl rp rb wt wn))) (zR (.int (nI (bef r2 rl j)))) 0 0 (fun _ => False) := by
  refine zr_of (cc := cX3_blocksBefore) (maxL := 4) (ret := (some .int)) (by decide) rfl (Nat.le_of_ble_eq_true rfl) ?_
  intro p e s m below meth c R args Q hR hx hb hml hr hlk hown hts hK hN hP hQ ls hl
  have hown : s.vm.findClass RX3 = some m.cls := hown
  have hl : lv_has ls 4 [(0, .ref (A 11)), (1, .int (nI j))] := hl
  refine lv_iconst (v := (nI 0)) hx hb dX3_blocksBefore_0 (by decide) ?_
  refine lv_istore_n (lv' := [(2, .int (nI 0)), (0, .ref (A 11)), (1, .int (nI j))]) hx hb dX3_blocksBefore_1 rfl hl (by decide) rfl (fun ls hl => ?_)
  refine lv_iconst (v := (nI 0)) hx hb dX3_blocksBefore_2 (by decide) ?_
  refine lv_istore_n (lv' := [(3, .int (nI 0)), (2, .int (nI 0)), (0, .ref (A 11)), (1, .int (nI j))]) hx hb dX3_blocksBefore_3 rfl hl (by decide) rfl (fun ls hl => ?_)
  have L4 : ∀ (n9 : Nat) (i : Nat) (hi : i ≤ rl), rl - i < n9 → ∀ ls : Array Slot, lv_has ls 4 [(3, .int (nI i)), (2, .int (nI (cnt (befP r2 j) i))), (0, .ref (A 11)), (1, .int (nI j))] → W p l e R s m args below meth c s.heap [] 0 0 Q (F0 m 4 ls []) := by
    intro n9
    induction n9 with
    | zero => intro i hi hn9; exact absurd hn9 (Nat.not_lt_zero _)
    | succ n9 ih9 =>
      have ih4 := ih9
      clear ih9
      intro i hi hn9 ls hl
      have hcn := cnt_le (befP r2 j) i
      refine lv_iload_n hx hb dX3_blocksBefore_4 rfl (lv_at hl 0 rfl) ?_
      refine lv_aload_n hx hb dX3_blocksBefore_5 rfl (lv_at hl 2 rfl) ?_
      refine va_get (D := D) (ci := 3) (v := .int (nI rl)) (C := RX3) (T := TX3) (N := 8) hx hb hts qX3_blocksBefore_inX3 hown hK hP 11 rfl rfl 5 (by decide) (hts _ qX3_blocksBefore_Cond_fieldLink_RX3_27_NestedCodes_Reading_length_I_) (fun _ h9 => h9) rfl dX3_blocksBefore_6 ?_
      refine zn_icmp_ge (tgt := 56)  hx hb dX3_blocksBefore_9 (by decide) (by omega) (by omega) (fun c9 => ?_) (fun c9 => ?_)
      · obtain rfl : i = rl := by omega
        refine lv_iload_n hx hb dX3_blocksBefore_56 rfl (lv_at hl 1 rfl) ?_
        exact zr_i hx hb hr hlk hQ dX3_blocksBefore_57 (rfl)
      · have hv1 := kr2 i (by omega)
        have hv2 := kr2 j (by omega)
        refine lv_aload_n hx hb dX3_blocksBefore_12 rfl (lv_at hl 2 rfl) ?_
        refine va_get (D := D) (ci := 3) (v := .ref (A 14)) (C := RX3) (T := TX3) (N := 8) hx hb hts qX3_blocksBefore_inX3 hown hK hP 11 rfl rfl 2 (by decide) (hts _ qX3_blocksBefore_Cond_fieldLink_RX3_18_NestedCodes_Reading_reliabilities_I_) (fun _ h9 => h9) rfl dX3_blocksBefore_13 ?_
        refine lv_iload_n hx hb dX3_blocksBefore_16 rfl (lv_at hl 0 rfl) ?_
        refine za_i hx hb hK hP 14 (f := fun k9 => nI (r2 k9)) (v := (nI (r2 i))) rfl (by omega) (by decide) dX3_blocksBefore_17 (rfl) ?_
        refine lv_aload_n hx hb dX3_blocksBefore_18 rfl (lv_at hl 2 rfl) ?_
        refine va_get (D := D) (ci := 3) (v := .ref (A 14)) (C := RX3) (T := TX3) (N := 8) hx hb hts qX3_blocksBefore_inX3 hown hK hP 11 rfl rfl 2 (by decide) (hts _ qX3_blocksBefore_Cond_fieldLink_RX3_18_NestedCodes_Reading_reliabilities_I_) (fun _ h9 => h9) rfl dX3_blocksBefore_19 ?_
        refine lv_iload_n hx hb dX3_blocksBefore_22 rfl (lv_at hl 3 rfl) ?_
        refine za_i hx hb hK hP 14 (f := fun k9 => nI (r2 k9)) (v := (nI (r2 j))) rfl (by omega) (by decide) dX3_blocksBefore_23 (rfl) ?_
        refine zn_icmp_lt (tgt := 47)  hx hb dX3_blocksBefore_24 (by decide) (by omega) (by omega) (fun c24 => ?_) (fun c24 => ?_)
        · refine lv_iinc (v := (nI (cnt (befP r2 j) i + 1))) (lv' := [(2, .int (nI (cnt (befP r2 j) i + 1))), (3, .int (nI i)), (0, .ref (A 11)), (1, .int (nI j))]) hx hb dX3_blocksBefore_47 hl (k := 1) rfl (zinc _) (by decide) rfl (fun ls hl => ?_)
          refine lv_iinc (v := (nI (i + 1))) (lv' := [(3, .int (nI (i + 1))), (2, .int (nI (cnt (befP r2 j) i + 1))), (0, .ref (A 11)), (1, .int (nI j))]) hx hb dX3_blocksBefore_50 hl (k := 1) rfl (zinc _) (by decide) rfl (fun ls hl => ?_)
          refine lv_goto (tgt := 4) hx hb dX3_blocksBefore_53 (by decide) ?_
          rw [show (.int (nI (cnt (befP r2 j) i + 1)) : Value) = .int (nI (cnt (befP r2 j) (i + 1))) from congrArg _ (congrArg nI (show _ = cnt (befP r2 j) i + b01 (befP r2 j i) from by rw [show befP r2 j i = true from decide_eq_true (by omega)]; rfl))] at hl
          exact ih4 (i + 1) (by omega) (by omega) ls (lv_sub hl [0, 1, 2, 3] rfl)
        · refine lv_aload_n hx hb dX3_blocksBefore_27 rfl (lv_at hl 2 rfl) ?_
          refine va_get (D := D) (ci := 3) (v := .ref (A 14)) (C := RX3) (T := TX3) (N := 8) hx hb hts qX3_blocksBefore_inX3 hown hK hP 11 rfl rfl 2 (by decide) (hts _ qX3_blocksBefore_Cond_fieldLink_RX3_18_NestedCodes_Reading_reliabilities_I_) (fun _ h9 => h9) rfl dX3_blocksBefore_28 ?_
          refine lv_iload_n hx hb dX3_blocksBefore_31 rfl (lv_at hl 0 rfl) ?_
          refine za_i hx hb hK hP 14 (f := fun k9 => nI (r2 k9)) (v := (nI (r2 i))) rfl (by omega) (by decide) dX3_blocksBefore_32 (rfl) ?_
          refine lv_aload_n hx hb dX3_blocksBefore_33 rfl (lv_at hl 2 rfl) ?_
          refine va_get (D := D) (ci := 3) (v := .ref (A 14)) (C := RX3) (T := TX3) (N := 8) hx hb hts qX3_blocksBefore_inX3 hown hK hP 11 rfl rfl 2 (by decide) (hts _ qX3_blocksBefore_Cond_fieldLink_RX3_18_NestedCodes_Reading_reliabilities_I_) (fun _ h9 => h9) rfl dX3_blocksBefore_34 ?_
          refine lv_iload_n hx hb dX3_blocksBefore_37 rfl (lv_at hl 3 rfl) ?_
          refine za_i hx hb hK hP 14 (f := fun k9 => nI (r2 k9)) (v := (nI (r2 j))) rfl (by omega) (by decide) dX3_blocksBefore_38 (rfl) ?_
          refine zn_icmp_ne (tgt := 50)  hx hb dX3_blocksBefore_39 (by decide) (by omega) (by omega) (fun c39 => ?_) (fun c39 => ?_)
          · refine lv_iinc (v := (nI (i + 1))) (lv' := [(3, .int (nI (i + 1))), (2, .int (nI (cnt (befP r2 j) i))), (0, .ref (A 11)), (1, .int (nI j))]) hx hb dX3_blocksBefore_50 hl (k := 0) rfl (zinc _) (by decide) rfl (fun ls hl => ?_)
            refine lv_goto (tgt := 4) hx hb dX3_blocksBefore_53 (by decide) ?_
            rw [show (.int (nI (cnt (befP r2 j) i)) : Value) = .int (nI (cnt (befP r2 j) (i + 1))) from congrArg _ (congrArg nI (show _ = cnt (befP r2 j) i + b01 (befP r2 j i) from by rw [show befP r2 j i = false from decide_eq_false (by omega)]; rfl))] at hl
            exact ih4 (i + 1) (by omega) (by omega) ls (lv_sub hl [0, 1, 2, 3] rfl)
          · refine lv_iload_n hx hb dX3_blocksBefore_42 rfl (lv_at hl 0 rfl) ?_
            refine lv_iload_n hx hb dX3_blocksBefore_43 rfl (lv_at hl 3 rfl) ?_
            refine zn_icmp_ge (tgt := 50)  hx hb dX3_blocksBefore_44 (by decide) (by omega) (by omega) (fun c44 => ?_) (fun c44 => ?_)
            · refine lv_iinc (v := (nI (i + 1))) (lv' := [(3, .int (nI (i + 1))), (2, .int (nI (cnt (befP r2 j) i))), (0, .ref (A 11)), (1, .int (nI j))]) hx hb dX3_blocksBefore_50 hl (k := 0) rfl (zinc _) (by decide) rfl (fun ls hl => ?_)
              refine lv_goto (tgt := 4) hx hb dX3_blocksBefore_53 (by decide) ?_
              rw [show (.int (nI (cnt (befP r2 j) i)) : Value) = .int (nI (cnt (befP r2 j) (i + 1))) from congrArg _ (congrArg nI (show _ = cnt (befP r2 j) i + b01 (befP r2 j i) from by rw [show befP r2 j i = false from decide_eq_false (by omega)]; rfl))] at hl
              exact ih4 (i + 1) (by omega) (by omega) ls (lv_sub hl [0, 1, 2, 3] rfl)
            · refine lv_iinc (v := (nI (cnt (befP r2 j) i + 1))) (lv' := [(2, .int (nI (cnt (befP r2 j) i + 1))), (3, .int (nI i)), (0, .ref (A 11)), (1, .int (nI j))]) hx hb dX3_blocksBefore_47 hl (k := 1) rfl (zinc _) (by decide) rfl (fun ls hl => ?_)
              refine lv_iinc (v := (nI (i + 1))) (lv' := [(3, .int (nI (i + 1))), (2, .int (nI (cnt (befP r2 j) i + 1))), (0, .ref (A 11)), (1, .int (nI j))]) hx hb dX3_blocksBefore_50 hl (k := 1) rfl (zinc _) (by decide) rfl (fun ls hl => ?_)
              refine lv_goto (tgt := 4) hx hb dX3_blocksBefore_53 (by decide) ?_
              rw [show (.int (nI (cnt (befP r2 j) i + 1)) : Value) = .int (nI (cnt (befP r2 j) (i + 1))) from congrArg _ (congrArg nI (show _ = cnt (befP r2 j) i + b01 (befP r2 j i) from by rw [show befP r2 j i = true from decide_eq_true (by omega)]; rfl))] at hl
              exact ih4 (i + 1) (by omega) (by omega) ls (lv_sub hl [0, 1, 2, 3] rfl)
  exact L4 (rl - 0 + 1) 0 (by omega) (Nat.lt_succ_self _) ls (lv_sub hl [0, 1, 2, 3] rfl)
theorem qX3_keptBlocks_Cond_fieldLink_RX3_35_NestedCodes_Reading_allBlocks_J_ : Cond.fieldLink RX3 35 "NestedCodes$Reading" "allBlocks" "J" ∈ wsX3_keptBlocks := by decide +kernel
theorem qX3_keptBlocks_inX3 : ∀ w ∈ wsX30, w ∈ wsX3_keptBlocks := by decide +kernel
theorem qX3_keptBlocks_Cond_fieldLink_RX3_27_NestedCodes_Reading_length_I_ : Cond.fieldLink RX3 27 "NestedCodes$Reading" "length" "I" ∈ wsX3_keptBlocks := by decide +kernel
theorem qX3_keptBlocks_Cond_fieldLink_RX3_21_NestedCodes_Reading_order_I_ : Cond.fieldLink RX3 21 "NestedCodes$Reading" "order" "[I" ∈ wsX3_keptBlocks := by decide +kernel
theorem qX3_keptBlocks_Cond_constantLong_RX3_74_1_ : Cond.constantLong RX3 74 (-1) ∈ wsX3_keptBlocks := by decide +kernel
set_option maxHeartbeats 4000000 in
set_option maxRecDepth 100000 in
theorem c_X3_keptBlocks (l : Launch) (D : va_G) (Y : Nat → ClassId) (A : Nat → Nat) (B : Nat → Nat) (σ : Nat → Nat) (hn : Nat) (h : Nat → Nat → Nat) (wd : Nat → Nat) (dd : Nat) (r0 : Nat → Nat) (r1 : Nat → Nat) (r2 : Nat → Nat) (r3 : Nat → Nat) (r4 : Nat → Nat) (rl : Nat) (rp : Nat) (rb : Nat) (wt : Nat → Nat) (wn : Nat) (q : Nat)  (hq : q ≤ 100) (krl : rl ≤ 12) (kr3 : ∀ j, j < rl → r3 j < 12) (krb : rb = mkP (fun j => decide (j < rl))) : Met l yX3_keptBlocks wsX3_keptBlocks ({ frames := 0, cells := 0, slots := 0, locals := 0 } : Room) (va_Pc [.ref (A 11), .int (nI q)] (zB D Y (CX Y A B σ hn h wd dd r0 r1 r2 r3 r4 rl rp rb wt wn))) (zR (.long (lN (mkP (kp r3 rl (min q rl)))))) 0 0 (fun _ => False) := by
  refine zr_of (cc := cX3_keptBlocks) (maxL := 5) (ret := (some .long)) (by decide) rfl (Nat.le_of_ble_eq_true rfl) ?_
  intro p e s m below meth c R args Q hR hx hb hml hr hlk hown hts hK hN hP hQ ls hl
  have hown : s.vm.findClass RX3 = some m.cls := hown
  have hl : lv_has ls 5 [(0, .ref (A 11)), (1, .int (nI q))] := hl
  refine lv_aload_n hx hb dX3_keptBlocks_0 rfl (lv_at hl 0 rfl) ?_
  refine va_get (D := D) (ci := 3) (v := .long (lN (rb))) (C := RX3) (T := TX3) (N := 8) hx hb hts qX3_keptBlocks_inX3 hown hK hP 11 rfl rfl 7 (by decide) (hts _ qX3_keptBlocks_Cond_fieldLink_RX3_35_NestedCodes_Reading_allBlocks_J_) (fun _ h9 => h9) rfl dX3_keptBlocks_1 ?_
  refine lv_lstore_n (lv' := [(2, .long (lN (rb))), (0, .ref (A 11)), (1, .int (nI q))]) hx hb dX3_keptBlocks_4 rfl hl (by decide) rfl (fun ls hl => ?_)
  refine lv_iconst (v := (nI 0)) hx hb dX3_keptBlocks_5 (by decide) ?_
  refine lv_istore (lv' := [(4, .int (nI 0)), (2, .long (lN (rb))), (0, .ref (A 11)), (1, .int (nI q))]) hx hb dX3_keptBlocks_6 hl (by decide) rfl (fun ls hl => ?_)
  have L8 : ∀ (n9 : Nat) (i : Nat) (hi : i ≤ q) (hi2 : i ≤ rl), rl - i < n9 → ∀ ls : Array Slot, lv_has ls 5 [(4, .int (nI i)), (2, .long (lN (mkP (kp r3 rl i)))), (0, .ref (A 11)), (1, .int (nI q))] → W p l e R s m args below meth c s.heap [] 0 0 Q (F0 m 8 ls []) := by
    intro n9
    induction n9 with
    | zero => intro i hi hi2 hn9; exact absurd hn9 (Nat.not_lt_zero _)
    | succ n9 ih9 =>
      have ih8 := ih9
      clear ih9
      intro i hi hi2 hn9 ls hl
      refine lv_iload hx hb dX3_keptBlocks_8 (lv_at hl 0 rfl) ?_
      refine lv_iload_n hx hb dX3_keptBlocks_10 rfl (lv_at hl 3 rfl) ?_
      refine zn_icmp_ge (tgt := 47)  hx hb dX3_keptBlocks_11 (by decide) (by omega) (by omega) (fun c11 => ?_) (fun c11 => ?_)
      · refine lv_lload_n hx hb dX3_keptBlocks_47 rfl (lv_at hl 1 rfl) ?_
        exact zr_l hx hb hr hlk hQ dX3_keptBlocks_48 (by rw [show min q rl = i from by omega])
      · refine lv_iload hx hb dX3_keptBlocks_14 (lv_at hl 0 rfl) ?_
        refine lv_aload_n hx hb dX3_keptBlocks_16 rfl (lv_at hl 2 rfl) ?_
        refine va_get (D := D) (ci := 3) (v := .int (nI rl)) (C := RX3) (T := TX3) (N := 8) hx hb hts qX3_keptBlocks_inX3 hown hK hP 11 rfl rfl 5 (by decide) (hts _ qX3_keptBlocks_Cond_fieldLink_RX3_27_NestedCodes_Reading_length_I_) (fun _ h9 => h9) rfl dX3_keptBlocks_17 ?_
        refine zn_icmp_ge (tgt := 47)  hx hb dX3_keptBlocks_20 (by decide) (by omega) (by omega) (fun c20 => ?_) (fun c20 => ?_)
        · refine lv_lload_n hx hb dX3_keptBlocks_47 rfl (lv_at hl 1 rfl) ?_
          exact zr_l hx hb hr hlk hQ dX3_keptBlocks_48 (by rw [show min q rl = i from by omega])
        · have hv3 := kr3 i (by omega)
          refine lv_lload_n hx hb dX3_keptBlocks_23 rfl (lv_at hl 1 rfl) ?_
          refine lv_lconst (v := lN 1) hx hb dX3_keptBlocks_24 (by decide) ?_
          refine lv_iconst (v := (nI 4)) hx hb dX3_keptBlocks_25 (by decide) ?_
          refine lv_aload_n hx hb dX3_keptBlocks_26 rfl (lv_at hl 2 rfl) ?_
          refine va_get (D := D) (ci := 3) (v := .ref (A 15)) (C := RX3) (T := TX3) (N := 8) hx hb hts qX3_keptBlocks_inX3 hown hK hP 11 rfl rfl 3 (by decide) (hts _ qX3_keptBlocks_Cond_fieldLink_RX3_21_NestedCodes_Reading_order_I_) (fun _ h9 => h9) rfl dX3_keptBlocks_27 ?_
          refine lv_iload hx hb dX3_keptBlocks_30 (lv_at hl 0 rfl) ?_
          refine za_i hx hb hK hP 15 (f := fun k9 => nI (r3 k9)) (v := (nI (r3 i))) rfl (by omega) (by decide) dX3_keptBlocks_32 (rfl) ?_
          refine zv_imul hx hb (v := (nI (4 * (r3 i)))) dX3_keptBlocks_33 (pk_mul _ _) ?_
          refine lv_lshl hx hb dX3_keptBlocks_34 (v := (lN (1 * 2 ^ (4 * (r3 i))))) (wb_shl _ (by omega)) ?_
          refine lv_ldc2 hx hb hown (hts _ qX3_keptBlocks_Cond_constantLong_RX3_74_1_) dX3_keptBlocks_35 ?_
          refine zt_l (v := lN 18446744073709551615) (by rfl) ?_
          refine zv_lxor hx hb (v := (lN ((1 * 2 ^ (4 * (r3 i))) ^^^ 18446744073709551615))) dX3_keptBlocks_38 (fb_xorL _ _) ?_
          refine zv_land hx hb (v := (lN (mkP (kp r3 rl (i + 1))))) dX3_keptBlocks_39 (by rw [fb_andL, mkP_clear _ hv3]; rfl) ?_
          refine lv_lstore_n (lv' := [(2, .long (lN (mkP (kp r3 rl (i + 1))))), (4, .int (nI i)), (0, .ref (A 11)), (1, .int (nI q))]) hx hb dX3_keptBlocks_40 rfl hl (by decide) rfl (fun ls hl => ?_)
          refine lv_iinc (v := (nI (i + 1))) (lv' := [(4, .int (nI (i + 1))), (2, .long (lN (mkP (kp r3 rl (i + 1))))), (0, .ref (A 11)), (1, .int (nI q))]) hx hb dX3_keptBlocks_41 hl (k := 1) rfl (zinc _) (by decide) rfl (fun ls hl => ?_)
          refine lv_goto (tgt := 8) hx hb dX3_keptBlocks_44 (by decide) ?_
          exact ih8 (i + 1) (by omega) (by omega) (by omega) ls (lv_sub hl [0, 1, 2, 3] rfl)
  rw [show (.long (lN (rb)) : Value) = .long (lN (mkP (kp r3 rl 0))) from congrArg _ (by rw [krb]; rfl)] at hl
  exact L8 (rl - 0 + 1) 0 (by omega) (by omega) (Nat.lt_succ_self _) ls (lv_sub hl [0, 1, 2, 3] rfl)
theorem qX3_differingBlocks_Cond_fieldLink_RX3_31_NestedCodes_Reading_packedSymbols_J_ : Cond.fieldLink RX3 31 "NestedCodes$Reading" "packedSymbols" "J" ∈ wsX3_differingBlocks := by decide +kernel
theorem qX3_differingBlocks_inX3 : ∀ w ∈ wsX30, w ∈ wsX3_differingBlocks := by decide +kernel
theorem qX3_differingBlocks_Cond_initialized_RX2 : Cond.initialized RX2 ∈ wsX3_differingBlocks := by decide +kernel
theorem qX3_differingBlocks_Cond_static_yX2_markSymbols : Cond.static yX2_markSymbols ∈ wsX3_differingBlocks := by decide +kernel
theorem qX3_differingBlocks_Cond_fieldLink_RX3_35_NestedCodes_Reading_allBlocks_J_ : Cond.fieldLink RX3 35 "NestedCodes$Reading" "allBlocks" "J" ∈ wsX3_differingBlocks := by decide +kernel
set_option maxHeartbeats 4000000 in
set_option maxRecDepth 100000 in
theorem c_X3_differingBlocks (l : Launch) (D : va_G) (Y : Nat → ClassId) (A : Nat → Nat) (B : Nat → Nat) (σ : Nat → Nat) (hn : Nat) (h : Nat → Nat → Nat) (wd : Nat → Nat) (dd : Nat) (r0 : Nat → Nat) (r1 : Nat → Nat) (r2 : Nat → Nat) (r3 : Nat → Nat) (r4 : Nat → Nat) (rl : Nat) (rp : Nat) (rb : Nat) (wt : Nat → Nat) (wn : Nat) (x : Nat)  (hx9 : x < 281474976710656) (krp : rp < 281474976710656) : Met l yX3_differingBlocks wsX3_differingBlocks ({ frames := 1, cells := 0, slots := 0, locals := 23 } : Room) (va_Pc [.ref (A 11), .long (lN (x))] (zB D Y (CX Y A B σ hn h wd dd r0 r1 r2 r3 r4 rl rp rb wt wn))) (zR (.long (lN (mkS (x ^^^ rp) &&& rb)))) 0 0 (fun _ => False) := by
  refine zr_of (cc := cX3_differingBlocks) (maxL := 3) (ret := (some .long)) (by decide) rfl (Nat.le_of_ble_eq_true rfl) ?_
  intro p e s m below meth c R args Q hR hx hb hml hr hlk hown hts hK hN hP hQ ls hl
  have hown : s.vm.findClass RX3 = some m.cls := hown
  have hl : lv_has ls 3 [(0, .ref (A 11)), (1, .long (lN (x)))] := hl
  refine lv_lload_n hx hb dX3_differingBlocks_0 rfl (lv_at hl 1 rfl) ?_
  refine lv_aload_n hx hb dX3_differingBlocks_1 rfl (lv_at hl 0 rfl) ?_
  refine va_get (D := D) (ci := 3) (v := .long (lN (rp))) (C := RX3) (T := TX3) (N := 8) hx hb hts qX3_differingBlocks_inX3 hown hK hP 11 rfl rfl 6 (by decide) (hts _ qX3_differingBlocks_Cond_fieldLink_RX3_31_NestedCodes_Reading_packedSymbols_J_) (fun _ h9 => h9) rfl dX3_differingBlocks_2 ?_
  refine zv_lxor hx hb (v := (lN (x ^^^ rp))) dX3_differingBlocks_5 (fb_xorL _ _) ?_
  refine zc_r (va_runSN (As := [.long (lN (x ^^^ rp))]) (rest := []) ⟨hx, hb, hml, hown, hts⟩ (c_X2_markSymbols l D Y  (x ^^^ rp) (Nat.lt_trans (Nat.xor_lt_two_pow (n := 48) hx9 krp) (by decide))) ⟨(va_cnB 1 hts gX3_differingBlocks_X2_markSymbols_n76 rfl rfl rfl (kM_X3_76 hN) (hts _ qX3_differingBlocks_Cond_initialized_RX2) (by decide +kernel) (by rw [hR]; exact ⟨Nat.le_of_ble_eq_true rfl, Nat.le_of_ble_eq_true rfl⟩)), (hts _ qX3_differingBlocks_Cond_static_yX2_markSymbols), trivial⟩ ⟨zB_blind, (zp_r (v := [.long (lN (x ^^^ rp))]) (fun k q h => absurd h (by simp)) hK hN)⟩ rfl rfl hl.1 rfl (lv_room (Nat.le_of_ble_eq_true rfl)) dX3_differingBlocks_6 ⟨Nat.zero_le _, Nat.zero_le _⟩).run ?_
  refine lv_aload_n hx hb dX3_differingBlocks_9 rfl (lv_at hl 0 rfl) ?_
  refine va_get (D := D) (ci := 3) (v := .long (lN (rb))) (C := RX3) (T := TX3) (N := 8) hx hb hts qX3_differingBlocks_inX3 hown hK hP 11 rfl rfl 7 (by decide) (hts _ qX3_differingBlocks_Cond_fieldLink_RX3_35_NestedCodes_Reading_allBlocks_J_) (fun _ h9 => h9) rfl dX3_differingBlocks_10 ?_
  refine zv_land hx hb (v := (lN ((mkS (x ^^^ rp)) &&& rb))) dX3_differingBlocks_13 (fb_andL _ _) ?_
  exact zr_l hx hb hr hlk hQ dX3_differingBlocks_14 (rfl)
theorem qX3_scoreOf_Cond_fieldLink_RX3_27_NestedCodes_Reading_length_I_ : Cond.fieldLink RX3 27 "NestedCodes$Reading" "length" "I" ∈ wsX3_scoreOf := by decide +kernel
theorem qX3_scoreOf_inX3 : ∀ w ∈ wsX30, w ∈ wsX3_scoreOf := by decide +kernel
theorem qX3_scoreOf_Cond_fieldLink_RX3_18_NestedCodes_Reading_reliabilities_I_ : Cond.fieldLink RX3 18 "NestedCodes$Reading" "reliabilities" "[I" ∈ wsX3_scoreOf := by decide +kernel
set_option maxHeartbeats 4000000 in
set_option maxRecDepth 100000 in
theorem c_X3_scoreOf (l : Launch) (D : va_G) (Y : Nat → ClassId) (A : Nat → Nat) (B : Nat → Nat) (σ : Nat → Nat) (hn : Nat) (h : Nat → Nat → Nat) (wd : Nat → Nat) (dd : Nat) (r0 : Nat → Nat) (r1 : Nat → Nat) (r2 : Nat → Nat) (r3 : Nat → Nat) (r4 : Nat → Nat) (rl : Nat) (rp : Nat) (rb : Nat) (wt : Nat → Nat) (wn : Nat) (x : Nat)  (hx9 : x < 281474976710656) (krp : rp < 281474976710656) (krl : rl ≤ 12) : Met l yX3_scoreOf wsX3_scoreOf ({ frames := 2, cells := 0, slots := 0, locals := 45 } : Room) (va_Pc [.ref (A 11), .long (lN (x))] (zB D Y (CX Y A B σ hn h wd dd r0 r1 r2 r3 r4 rl rp rb wt wn))) (zR (.int (zI (scD (mkS (x ^^^ rp) &&& rb) r2 rl)))) 0 0 (fun _ => False) := by
  refine zr_of (cc := cX3_scoreOf) (maxL := 8) (ret := (some .int)) (by decide) rfl (Nat.le_of_ble_eq_true rfl) ?_
  intro p e s m below meth c R args Q hR hx hb hml hr hlk hown hts hK hN hP hQ ls hl
  have hown : s.vm.findClass RX3 = some m.cls := hown
  have hl : lv_has ls 8 [(0, .ref (A 11)), (1, .long (lN (x)))] := hl
  have hdf : (mkS (x ^^^ rp) &&& rb) < 281474976710656 := Nat.lt_of_le_of_lt Nat.and_le_left (Nat.lt_of_le_of_lt Nat.and_le_right (by decide))
  refine lv_aload_n hx hb dX3_scoreOf_0 rfl (lv_at hl 0 rfl) ?_
  refine lv_lload_n hx hb dX3_scoreOf_1 rfl (lv_at hl 1 rfl) ?_
  refine zc_r (va_runV (As := [.long (lN (x))]) (rest := []) ⟨hx, hb, hml, hown, hts⟩ (c_X3_differingBlocks l D Y A B σ hn h wd dd r0 r1 r2 r3 r4 rl rp rb wt wn x (by omega) krp) (cwV 1 hts gX3_scoreOf_X3_differingBlocks rfl rfl rfl (by decide +kernel) (by rw [hR]; exact ⟨Nat.le_of_ble_eq_true rfl, Nat.le_of_ble_eq_true rfl⟩)) ⟨zB_blind, va_recv hK hP (ci := 3) (q0 := 11) rfl rfl, zp_r hP hK hN⟩ rfl rfl hl.1 rfl (lv_room (Nat.le_of_ble_eq_true rfl)) dX3_scoreOf_2 ⟨Nat.zero_le _, Nat.zero_le _⟩).run ?_
  refine lv_lstore_n (lv' := [(3, .long (lN (mkS (x ^^^ rp) &&& rb))), (0, .ref (A 11)), (1, .long (lN (x)))]) hx hb dX3_scoreOf_5 rfl hl (by decide) rfl (fun ls hl => ?_)
  refine lv_iconst (v := (nI 0)) hx hb dX3_scoreOf_6 (by decide) ?_
  refine lv_istore (lv' := [(5, .int (nI 0)), (3, .long (lN (mkS (x ^^^ rp) &&& rb))), (0, .ref (A 11)), (1, .long (lN (x)))]) hx hb dX3_scoreOf_7 hl (by decide) rfl (fun ls hl => ?_)
  refine lv_iconst (v := (nI 0)) hx hb dX3_scoreOf_9 (by decide) ?_
  refine lv_istore (lv' := [(6, .int (nI 0)), (5, .int (nI 0)), (3, .long (lN (mkS (x ^^^ rp) &&& rb))), (0, .ref (A 11)), (1, .long (lN (x)))]) hx hb dX3_scoreOf_10 hl (by decide) rfl (fun ls hl => ?_)
  have L12 : ∀ (n9 : Nat) (i : Nat) (hi : i ≤ rl), rl - i < n9 → ∀ ls : Array Slot, lv_has ls 8 [(6, .int (nI i)), (5, .int (zI (scD (mkS (x ^^^ rp) &&& rb) r2 i))), (3, .long (lN (mkS (x ^^^ rp) &&& rb))), (0, .ref (A 11)), (1, .long (lN (x)))] → W p l e R s m args below meth c s.heap [] 0 0 Q (F0 m 12 ls []) := by
    intro n9
    induction n9 with
    | zero => intro i hi hn9; exact absurd hn9 (Nat.not_lt_zero _)
    | succ n9 ih9 =>
      have ih12 := ih9
      clear ih9
      intro i hi hn9 ls hl
      refine lv_iload hx hb dX3_scoreOf_12 (lv_at hl 0 rfl) ?_
      refine lv_aload_n hx hb dX3_scoreOf_14 rfl (lv_at hl 3 rfl) ?_
      refine va_get (D := D) (ci := 3) (v := .int (nI rl)) (C := RX3) (T := TX3) (N := 8) hx hb hts qX3_scoreOf_inX3 hown hK hP 11 rfl rfl 5 (by decide) (hts _ qX3_scoreOf_Cond_fieldLink_RX3_27_NestedCodes_Reading_length_I_) (fun _ h9 => h9) rfl dX3_scoreOf_15 ?_
      refine zn_icmp_ge (tgt := 75)  hx hb dX3_scoreOf_18 (by decide) (by omega) (by omega) (fun c18 => ?_) (fun c18 => ?_)
      · obtain rfl : i = rl := by omega
        refine lv_iload hx hb dX3_scoreOf_75 (lv_at hl 1 rfl) ?_
        exact zr_i hx hb hr hlk hQ dX3_scoreOf_77 (rfl)
      · refine lv_lload_n hx hb dX3_scoreOf_21 rfl (lv_at hl 2 rfl) ?_
        refine lv_iconst (v := (nI 4)) hx hb dX3_scoreOf_22 (by decide) ?_
        refine lv_iload hx hb dX3_scoreOf_23 (lv_at hl 0 rfl) ?_
        refine zv_imul hx hb (v := (nI (4 * i))) dX3_scoreOf_25 (pk_mul _ _) ?_
        refine lv_lushr hx hb dX3_scoreOf_26 (v := (lN ((mkS (x ^^^ rp) &&& rb) / 2 ^ (4 * i)))) (wb_shr (by omega) (by omega)) ?_
        refine lv_lconst (v := lN 1) hx hb dX3_scoreOf_27 (by decide) ?_
        refine zv_land hx hb (v := (lN (((mkS (x ^^^ rp) &&& rb) / 2 ^ (4 * i)) % 2))) dX3_scoreOf_28 (zland1 _) ?_
        refine lv_lconst (v := lN 1) hx hb dX3_scoreOf_29 (by decide) ?_
        refine W.lcmp hx hb dX3_scoreOf_30 ?_
        have J39 : W p l e R s m args below meth c s.heap [] 0 0 Q (F0 m 39 ls [.int (zq ((mkS (x ^^^ rp) &&& rb) / 2 ^ (4 * i) % 2 = 1))]) := by
          refine lv_istore (lv' := [(7, .int (zq ((mkS (x ^^^ rp) &&& rb) / 2 ^ (4 * i) % 2 = 1))), (6, .int (nI i)), (5, .int (zI (scD (mkS (x ^^^ rp) &&& rb) r2 i))), (3, .long (lN (mkS (x ^^^ rp) &&& rb))), (0, .ref (A 11)), (1, .long (lN (x)))]) hx hb dX3_scoreOf_39 hl (by decide) rfl (fun ls hl => ?_)
          refine lv_iload hx hb dX3_scoreOf_41 (lv_at hl 2 rfl) ?_
          refine lv_iload hx hb dX3_scoreOf_43 (lv_at hl 0 rfl) ?_
          refine zb_if_eq (tgt := 59)  hx hb dX3_scoreOf_45 (by decide)  (fun c45 => ?_) (fun c45 => ?_)
          · refine lv_aload_n hx hb dX3_scoreOf_59 rfl (lv_at hl 4 rfl) ?_
            refine va_get (D := D) (ci := 3) (v := .ref (A 14)) (C := RX3) (T := TX3) (N := 8) hx hb hts qX3_scoreOf_inX3 hown hK hP 11 rfl rfl 2 (by decide) (hts _ qX3_scoreOf_Cond_fieldLink_RX3_18_NestedCodes_Reading_reliabilities_I_) (fun _ h9 => h9) rfl dX3_scoreOf_60 ?_
            refine lv_iload hx hb dX3_scoreOf_63 (lv_at hl 1 rfl) ?_
            refine za_i hx hb hK hP 14 (f := fun k9 => nI (r2 k9)) (v := (nI (r2 i))) rfl (by omega) (by decide) dX3_scoreOf_65 (rfl) ?_
            refine zv_iadd hx hb (v := (zI ((scD (mkS (x ^^^ rp) &&& rb) r2 i) + ((r2 i : Nat) : Int)))) dX3_scoreOf_66 (by rw [zI_nat]; exact zI_add _ _) ?_
            refine lv_istore (lv' := [(5, .int (zI ((scD (mkS (x ^^^ rp) &&& rb) r2 i) + ((r2 i : Nat) : Int)))), (7, .int (zq ((mkS (x ^^^ rp) &&& rb) / 2 ^ (4 * i) % 2 = 1))), (6, .int (nI i)), (3, .long (lN (mkS (x ^^^ rp) &&& rb))), (0, .ref (A 11)), (1, .long (lN (x)))]) hx hb dX3_scoreOf_67 hl (by decide) rfl (fun ls hl => ?_)
            refine lv_iinc (v := (nI (i + 1))) (lv' := [(6, .int (nI (i + 1))), (5, .int (zI ((scD (mkS (x ^^^ rp) &&& rb) r2 i) + ((r2 i : Nat) : Int)))), (7, .int (zq ((mkS (x ^^^ rp) &&& rb) / 2 ^ (4 * i) % 2 = 1))), (3, .long (lN (mkS (x ^^^ rp) &&& rb))), (0, .ref (A 11)), (1, .long (lN (x)))]) hx hb dX3_scoreOf_69 hl (k := 2) rfl (zinc _) (by decide) rfl (fun ls hl => ?_)
            refine lv_goto (tgt := 12) hx hb dX3_scoreOf_72 (by decide) ?_
            rw [show (.int (zI ((scD (mkS (x ^^^ rp) &&& rb) r2 i) + ((r2 i : Nat) : Int))) : Value) = .int (zI (scD (mkS (x ^^^ rp) &&& rb) r2 (i + 1))) from congrArg _ (congrArg zI (show _ = scD (mkS (x ^^^ rp) &&& rb) r2 i + (if (mkS (x ^^^ rp) &&& rb) / 2 ^ (4 * i) % 2 = 1 then _ else _) from by first | rw [if_pos (by omega)] | rw [if_neg (by omega)]))] at hl
            exact ih12 (i + 1) (by omega) (by omega) ls (lv_sub hl [0, 1, 3, 4, 5] rfl)
          · refine lv_aload_n hx hb dX3_scoreOf_48 rfl (lv_at hl 4 rfl) ?_
            refine va_get (D := D) (ci := 3) (v := .ref (A 14)) (C := RX3) (T := TX3) (N := 8) hx hb hts qX3_scoreOf_inX3 hown hK hP 11 rfl rfl 2 (by decide) (hts _ qX3_scoreOf_Cond_fieldLink_RX3_18_NestedCodes_Reading_reliabilities_I_) (fun _ h9 => h9) rfl dX3_scoreOf_49 ?_
            refine lv_iload hx hb dX3_scoreOf_52 (lv_at hl 1 rfl) ?_
            refine za_i hx hb hK hP 14 (f := fun k9 => nI (r2 k9)) (v := (nI (r2 i))) rfl (by omega) (by decide) dX3_scoreOf_54 (rfl) ?_
            refine zv_ineg hx hb (v := (zI (-((r2 i : Nat) : Int)))) dX3_scoreOf_55 (by rw [zI_nat]; exact zI_neg _) ?_
            refine lv_goto (tgt := 66) hx hb dX3_scoreOf_56 (by decide) ?_
            refine zv_iadd hx hb (v := (zI ((scD (mkS (x ^^^ rp) &&& rb) r2 i) + (-((r2 i : Nat) : Int))))) dX3_scoreOf_66 (by exact zI_add _ _) ?_
            refine lv_istore (lv' := [(5, .int (zI ((scD (mkS (x ^^^ rp) &&& rb) r2 i) + (-((r2 i : Nat) : Int))))), (7, .int (zq ((mkS (x ^^^ rp) &&& rb) / 2 ^ (4 * i) % 2 = 1))), (6, .int (nI i)), (3, .long (lN (mkS (x ^^^ rp) &&& rb))), (0, .ref (A 11)), (1, .long (lN (x)))]) hx hb dX3_scoreOf_67 hl (by decide) rfl (fun ls hl => ?_)
            refine lv_iinc (v := (nI (i + 1))) (lv' := [(6, .int (nI (i + 1))), (5, .int (zI ((scD (mkS (x ^^^ rp) &&& rb) r2 i) + (-((r2 i : Nat) : Int))))), (7, .int (zq ((mkS (x ^^^ rp) &&& rb) / 2 ^ (4 * i) % 2 = 1))), (3, .long (lN (mkS (x ^^^ rp) &&& rb))), (0, .ref (A 11)), (1, .long (lN (x)))]) hx hb dX3_scoreOf_69 hl (k := 2) rfl (zinc _) (by decide) rfl (fun ls hl => ?_)
            refine lv_goto (tgt := 12) hx hb dX3_scoreOf_72 (by decide) ?_
            rw [show (.int (zI ((scD (mkS (x ^^^ rp) &&& rb) r2 i) + (-((r2 i : Nat) : Int)))) : Value) = .int (zI (scD (mkS (x ^^^ rp) &&& rb) r2 (i + 1))) from congrArg _ (congrArg zI (show _ = scD (mkS (x ^^^ rp) &&& rb) r2 i + (if (mkS (x ^^^ rp) &&& rb) / 2 ^ (4 * i) % 2 = 1 then _ else _) from by first | rw [if_pos (by omega)] | rw [if_neg (by omega)]))] at hl
            exact ih12 (i + 1) (by omega) (by omega) ls (lv_sub hl [0, 1, 3, 4, 5] rfl)
        refine zc_if_ne (tgt := 38)  hx hb dX3_scoreOf_31 (by decide) (by omega) (by omega) (fun c31 => ?_) (fun c31 => ?_)
        · refine lv_iconst (v := (nI 0)) hx hb dX3_scoreOf_38 (by decide) ?_
          refine zt_i (v := (zq ((mkS (x ^^^ rp) &&& rb) / 2 ^ (4 * i) % 2 = 1))) (by first | exact zq_nt (by omega) | exact zq_nf (by omega)) ?_
          exact J39
        · refine lv_iconst (v := (nI 1)) hx hb dX3_scoreOf_34 (by decide) ?_
          refine lv_goto (tgt := 39) hx hb dX3_scoreOf_35 (by decide) ?_
          refine zt_i (v := (zq ((mkS (x ^^^ rp) &&& rb) / 2 ^ (4 * i) % 2 = 1))) (by first | exact zq_nt (by omega) | exact zq_nf (by omega)) ?_
          exact J39
  rw [show (.int (nI 0) : Value) = .int (zI (scD (mkS (x ^^^ rp) &&& rb) r2 0)) from congrArg _ (zI_nat 0)] at hl
  exact L12 (rl - 0 + 1) 0 (by omega) (Nat.lt_succ_self _) ls (lv_sub hl [0, 1, 2, 3, 4] rfl)
theorem qX3_read_inX4 : ∀ w ∈ wsX40, w ∈ wsX3_read := by decide +kernel
theorem qX3_read_Cond_fieldLink_RX3_27_NestedCodes_Reading_length_I_ : Cond.fieldLink RX3 27 "NestedCodes$Reading" "length" "I" ∈ wsX3_read := by decide +kernel
theorem qX3_read_inX3 : ∀ w ∈ wsX30, w ∈ wsX3_read := by decide +kernel
theorem qX3_read_Cond_initialized_RX2 : Cond.initialized RX2 ∈ wsX3_read := by decide +kernel
theorem qX3_read_Cond_static_yX2_marks : Cond.static yX2_marks ∈ wsX3_read := by decide +kernel
theorem qX3_read_Cond_fieldLink_RX3_35_NestedCodes_Reading_allBlocks_J_ : Cond.fieldLink RX3 35 "NestedCodes$Reading" "allBlocks" "J" ∈ wsX3_read := by decide +kernel
theorem qX3_read_Cond_fieldLink_RX3_31_NestedCodes_Reading_packedSymbols_J_ : Cond.fieldLink RX3 31 "NestedCodes$Reading" "packedSymbols" "J" ∈ wsX3_read := by decide +kernel
theorem qX3_read_Cond_fieldLink_RX3_24_NestedCodes_Reading_places_I_ : Cond.fieldLink RX3 24 "NestedCodes$Reading" "places" "[I" ∈ wsX3_read := by decide +kernel
theorem qX3_read_Cond_fieldLink_RX3_21_NestedCodes_Reading_order_I_ : Cond.fieldLink RX3 21 "NestedCodes$Reading" "order" "[I" ∈ wsX3_read := by decide +kernel
theorem qX3_read_Cond_fieldLink_RX3_9_NestedCodes_Reading_symbols_I_ : Cond.fieldLink RX3 9 "NestedCodes$Reading" "symbols" "[I" ∈ wsX3_read := by decide +kernel
set_option maxHeartbeats 4000000 in
set_option maxRecDepth 100000 in
theorem c_X3_read (l : Launch) (D : va_G) (Y : Nat → ClassId) (A : Nat → Nat) (B : Nat → Nat) (σ : Nat → Nat) (hn : Nat) (h : Nat → Nat → Nat) (wd : Nat → Nat) (dd : Nat) (r0 : Nat → Nat) (r1 : Nat → Nat) (r2 : Nat → Nat) (r3 : Nat → Nat) (r4 : Nat → Nat) (rl : Nat) (rp : Nat) (rb : Nat) (wt : Nat → Nat) (wn : Nat)   (k12 : σ 0 ≤ 12) (kw9 : ∀ j, j < 12 → σ (9 + j) < 1024) (kwd : ∀ j, j < 16 → wd j < 1024) (kdd : dd ≤ 12) : Met l yX3_read wsX3_read ({ frames := 4, cells := 0, slots := 0, locals := 89 } : Room) (va_Pc [.ref (A 11), .ref (A 1), .ref (A 7)] (zBw D Y (CX Y A B σ hn h wd dd r0 r1 r2 r3 r4 rl rp rb wt wn))) (zW none D (CX Y A B σ hn h wd dd (zmx (σ 0) (itC wd σ) r0) (zmx (σ 0) (faC wd σ) r1) (zmx (σ 0) (trC wd dd σ) r2) (ordI (bef (zmx (σ 0) (trC wd dd σ) r2) (σ 0)) r3 (σ 0)) (zmx (σ 0) (bef (zmx (σ 0) (trC wd dd σ) r2) (σ 0)) r4) (σ 0) (pak (itC wd σ) (σ 0)) (mkP (fun k9 => decide (k9 < σ 0))) wt wn) (zA (CX Y A B σ hn h wd dd r0 r1 r2 r3 r4 rl rp rb wt wn))) 0 0 (zA (CX Y A B σ hn h wd dd r0 r1 r2 r3 r4 rl rp rb wt wn)) := by
  refine zw_of (cc := cX3_read) (maxL := 4) (ret := none) (by decide) rfl (Nat.le_of_ble_eq_true rfl) ?_
  intro p e s m below meth c R args Q FA hR hx hb hml hr hlk hown hts hK hN hQ hP hD hS ls hl
  have hown : s.vm.findClass RX3 = some m.cls := hown
  have hl : lv_has ls 4 [(0, .ref (A 11)), (1, .ref (A 1)), (2, .ref (A 7))] := hl
  have hS := hS
  suffices hgo : ∀ (H : Heap) (locs : List Loc), va_P D vwCl (CX Y A B σ hn h wd dd r0 r1 r2 r3 r4 rl rp rb wt wn) H → va_S FA s.heap H locs → W p l e R s m args below meth c H locs 0 0 Q (F0 m 0 ls []) from hgo _ _ hP hS
  clear hP hS
  intro H locs hP hS
  refine lv_aload_n hx hb dX3_read_0 rfl (lv_at hl 0 rfl) ?_
  refine lv_aload_n hx hb dX3_read_1 rfl (lv_at hl 1 rfl) ?_
  refine va_getN (D := D) (ci := 4) (v := .int (nI (σ 0))) (C := RX4) (T := TX4) (N := 7) hx hb hts qX3_read_inX4 hown hK hP 1 rfl rfl 0 (by decide) (kN_X3_38 hN) (fun _ h9 => h9) rfl dX3_read_2 ?_
  refine va_put (D := D) (ci := 3) (v := .int (nI (σ 0))) (ty := .int) (C := RX3) (T := TX3) (N := 8) hx hb hts qX3_read_inX3 tyX3 tyX3_ok nmX3 hown hK hP hD hS 11 rfl rfl 5 (by decide) (hts _ qX3_read_Cond_fieldLink_RX3_27_NestedCodes_Reading_length_I_) (fun _ h9 => h9) rfl (by decide +kernel) rfl rfl (Nat.le_of_ble_eq_true rfl) dX3_read_5 (fun H locs hP hD9 hS => ?_)
  rw [CX_f_rl] at hP
  have hP : va_P D vwCl (CX Y A B σ hn h wd dd r0 r1 r2 r3 r4 (σ 0) rp rb wt wn) H := hP
  have hD : va_D FA (CX Y A B σ hn h wd dd r0 r1 r2 r3 r4 (σ 0) rp rb wt wn) := CX_dd hD
  clear hD9
  refine lv_aload_n hx hb dX3_read_8 rfl (lv_at hl 0 rfl) ?_
  refine lv_aload_n hx hb dX3_read_9 rfl (lv_at hl 0 rfl) ?_
  refine va_get (D := D) (ci := 3) (v := .int (nI (σ 0))) (C := RX3) (T := TX3) (N := 8) hx hb hts qX3_read_inX3 hown hK hP 11 rfl rfl 5 (by decide) (hts _ qX3_read_Cond_fieldLink_RX3_27_NestedCodes_Reading_length_I_) (fun _ h9 => h9) rfl dX3_read_10 ?_
  refine zc_r (va_runSN (As := [.int (nI (σ 0))]) (rest := [.ref (A 11)]) ⟨hx, hb, hml, hown, hts⟩ (c_X2_marks l D Y  (σ 0) (by omega)) ⟨(va_cnB 1 hts gX3_read_X2_marks_n41 rfl rfl rfl (kM_X3_41 hN) (hts _ qX3_read_Cond_initialized_RX2) (by decide +kernel) (by rw [hR]; exact ⟨Nat.le_of_ble_eq_true rfl, Nat.le_of_ble_eq_true rfl⟩)), (hts _ qX3_read_Cond_static_yX2_marks), trivial⟩ ⟨zB_blind, (zp_r (v := [.int (nI (σ 0))]) (fun k q h => absurd h (by simp)) hK hN)⟩ rfl rfl hl.1 rfl (lv_room (Nat.le_of_ble_eq_true rfl)) dX3_read_13 ⟨Nat.zero_le _, Nat.zero_le _⟩).run ?_
  refine va_put (D := D) (ci := 3) (v := .long (lN (mkP (fun j => decide (j < (σ 0)))))) (ty := .long) (C := RX3) (T := TX3) (N := 8) hx hb hts qX3_read_inX3 tyX3 tyX3_ok nmX3 hown hK hP hD hS 11 rfl rfl 7 (by decide) (hts _ qX3_read_Cond_fieldLink_RX3_35_NestedCodes_Reading_allBlocks_J_) (fun _ h9 => h9) rfl (by decide +kernel) rfl rfl (Nat.le_of_ble_eq_true rfl) dX3_read_16 (fun H locs hP hD9 hS => ?_)
  rw [CX_f_rb] at hP
  have hP : va_P D vwCl (CX Y A B σ hn h wd dd r0 r1 r2 r3 r4 (σ 0) rp (mkP (fun j => decide (j < (σ 0)))) wt wn) H := hP
  have hD : va_D FA (CX Y A B σ hn h wd dd r0 r1 r2 r3 r4 (σ 0) rp (mkP (fun j => decide (j < (σ 0)))) wt wn) := CX_dd hD
  clear hD9
  refine lv_aload_n hx hb dX3_read_19 rfl (lv_at hl 0 rfl) ?_
  refine lv_lconst (v := lN 0) hx hb dX3_read_20 (by decide) ?_
  refine va_put (D := D) (ci := 3) (v := .long (lN (0))) (ty := .long) (C := RX3) (T := TX3) (N := 8) hx hb hts qX3_read_inX3 tyX3 tyX3_ok nmX3 hown hK hP hD hS 11 rfl rfl 6 (by decide) (hts _ qX3_read_Cond_fieldLink_RX3_31_NestedCodes_Reading_packedSymbols_J_) (fun _ h9 => h9) rfl (by decide +kernel) rfl rfl (Nat.le_of_ble_eq_true rfl) dX3_read_21 (fun H locs hP hD9 hS => ?_)
  rw [CX_f_rp] at hP
  have hP : va_P D vwCl (CX Y A B σ hn h wd dd r0 r1 r2 r3 r4 (σ 0) 0 (mkP (fun j => decide (j < (σ 0)))) wt wn) H := hP
  have hD : va_D FA (CX Y A B σ hn h wd dd r0 r1 r2 r3 r4 (σ 0) 0 (mkP (fun j => decide (j < (σ 0)))) wt wn) := CX_dd hD
  clear hD9
  refine lv_iconst (v := (nI 0)) hx hb dX3_read_24 (by decide) ?_
  refine lv_istore_n (lv' := [(3, .int (nI 0)), (0, .ref (A 11)), (1, .ref (A 1)), (2, .ref (A 7))]) hx hb dX3_read_25 rfl hl (by decide) rfl (fun ls hl => ?_)
  have L26 : ∀ (n9 : Nat) (i : Nat) (hi : i ≤ σ 0), σ 0 - i < n9 → ∀ (H : Heap) (locs : List Loc), va_P D vwCl (CX Y A B σ hn h wd dd (zmx i (itC wd σ) r0) (zmx i (faC wd σ) r1) (zmx i (trC wd dd σ) r2) r3 r4 (σ 0) (pak (itC wd σ) i) (mkP (fun j => decide (j < σ 0))) wt wn) H → va_D FA (CX Y A B σ hn h wd dd (zmx i (itC wd σ) r0) (zmx i (faC wd σ) r1) (zmx i (trC wd dd σ) r2) r3 r4 (σ 0) (pak (itC wd σ) i) (mkP (fun j => decide (j < σ 0))) wt wn) → va_S FA s.heap H locs → ∀ ls : Array Slot, lv_has ls 4 [(3, .int (nI i)), (0, .ref (A 11)), (1, .ref (A 1)), (2, .ref (A 7))] → W p l e R s m args below meth c H locs 0 0 Q (F0 m 26 ls []) := by
    intro n9
    induction n9 with
    | zero => intro i hi hn9; exact absurd hn9 (Nat.not_lt_zero _)
    | succ n9 ih9 =>
      have ih26 := ih9
      clear ih9
      intro i hi hn9 H locs hP hD hS ls hl
      have hit := itC_lt wd σ i
      refine lv_iload_n hx hb dX3_read_26 rfl (lv_at hl 0 rfl) ?_
      refine lv_aload_n hx hb dX3_read_27 rfl (lv_at hl 1 rfl) ?_
      refine va_get (D := D) (ci := 3) (v := .int (nI (σ 0))) (C := RX3) (T := TX3) (N := 8) hx hb hts qX3_read_inX3 hown hK hP 11 rfl rfl 5 (by decide) (hts _ qX3_read_Cond_fieldLink_RX3_27_NestedCodes_Reading_length_I_) (fun _ h9 => h9) rfl dX3_read_28 ?_
      refine zn_icmp_ge (tgt := 67)  hx hb dX3_read_31 (by decide) (by omega) (by omega) (fun c31 => ?_) (fun c31 => ?_)
      · obtain rfl : i = σ 0 := by omega
        refine lv_iconst (v := (nI 0)) hx hb dX3_read_67 (by decide) ?_
        refine lv_istore_n (lv' := [(3, .int (nI 0)), (0, .ref (A 11)), (1, .ref (A 1)), (2, .ref (A 7))]) hx hb dX3_read_68 rfl hl (by decide) rfl (fun ls hl => ?_)
        have L69 : ∀ (n9 : Nat) (i : Nat) (hi : i ≤ σ 0), σ 0 - i < n9 → ∀ (H : Heap) (locs : List Loc), va_P D vwCl (CX Y A B σ hn h wd dd (zmx (σ 0) (itC wd σ) r0) (zmx (σ 0) (faC wd σ) r1) (zmx (σ 0) (trC wd dd σ) r2) (ordI (bef (zmx (σ 0) (trC wd dd σ) r2) (σ 0)) r3 i) (zmx i (bef (zmx (σ 0) (trC wd dd σ) r2) (σ 0)) r4) (σ 0) (pak (itC wd σ) (σ 0)) (mkP (fun j => decide (j < σ 0))) wt wn) H → va_D FA (CX Y A B σ hn h wd dd (zmx (σ 0) (itC wd σ) r0) (zmx (σ 0) (faC wd σ) r1) (zmx (σ 0) (trC wd dd σ) r2) (ordI (bef (zmx (σ 0) (trC wd dd σ) r2) (σ 0)) r3 i) (zmx i (bef (zmx (σ 0) (trC wd dd σ) r2) (σ 0)) r4) (σ 0) (pak (itC wd σ) (σ 0)) (mkP (fun j => decide (j < σ 0))) wt wn) → va_S FA s.heap H locs → ∀ ls : Array Slot, lv_has ls 4 [(3, .int (nI i)), (0, .ref (A 11)), (1, .ref (A 1)), (2, .ref (A 7))] → W p l e R s m args below meth c H locs 0 0 Q (F0 m 69 ls []) := by
          intro n9
          induction n9 with
          | zero => intro i hi hn9; exact absurd hn9 (Nat.not_lt_zero _)
          | succ n9 ih9 =>
            have ih69 := ih9
            clear ih9
            intro i hi hn9 H locs hP hD hS ls hl
            refine lv_iload_n hx hb dX3_read_69 rfl (lv_at hl 0 rfl) ?_
            refine lv_aload_n hx hb dX3_read_70 rfl (lv_at hl 1 rfl) ?_
            refine va_get (D := D) (ci := 3) (v := .int (nI (σ 0))) (C := RX3) (T := TX3) (N := 8) hx hb hts qX3_read_inX3 hown hK hP 11 rfl rfl 5 (by decide) (hts _ qX3_read_Cond_fieldLink_RX3_27_NestedCodes_Reading_length_I_) (fun _ h9 => h9) rfl dX3_read_71 ?_
            refine zn_icmp_ge (tgt := 106)  hx hb dX3_read_74 (by decide) (by omega) (by omega) (fun c74 => ?_) (fun c74 => ?_)
            · obtain rfl : i = σ 0 := by omega
              exact zw_v hx hb hr hlk hQ hS dX3_read_106 (hP)
            · have hbf := bef_lt (zmx (σ 0) (trC wd dd σ) r2) (N := σ 0) (j := i) (by omega)
              refine lv_aload_n hx hb dX3_read_77 rfl (lv_at hl 1 rfl) ?_
              refine va_get (D := D) (ci := 3) (v := .ref (A 16)) (C := RX3) (T := TX3) (N := 8) hx hb hts qX3_read_inX3 hown hK hP 11 rfl rfl 4 (by decide) (hts _ qX3_read_Cond_fieldLink_RX3_24_NestedCodes_Reading_places_I_) (fun _ h9 => h9) rfl dX3_read_78 ?_
              refine lv_iload_n hx hb dX3_read_81 rfl (lv_at hl 0 rfl) ?_
              refine lv_aload_n hx hb dX3_read_82 rfl (lv_at hl 1 rfl) ?_
              refine lv_iload_n hx hb dX3_read_83 rfl (lv_at hl 0 rfl) ?_
              refine zc_r (va_runV (As := [.int (nI i)]) (rest := [.int (nI i), .ref (A 16)]) ⟨hx, hb, hml, hown, hts⟩ (c_X3_blocksBefore l D Y A B σ hn h wd dd (zmx (σ 0) (itC wd σ) r0) (zmx (σ 0) (faC wd σ) r1) (zmx (σ 0) (trC wd dd σ) r2) (ordI (bef (zmx (σ 0) (trC wd dd σ) r2) (σ 0)) r3 i) (zmx i (bef (zmx (σ 0) (trC wd dd σ) r2) (σ 0)) r4) (σ 0) (pak (itC wd σ) (σ 0)) (mkP (fun j => decide (j < σ 0))) wt wn i (by omega) k12 (fun j hj => by have := trC_le wd dd σ j; rw [zmx_in _ _ hj]; omega)) (cwV 1 hts gX3_read_X3_blocksBefore rfl rfl rfl (by decide +kernel) (by rw [hR]; exact ⟨Nat.le_of_ble_eq_true rfl, Nat.le_of_ble_eq_true rfl⟩)) ⟨zB_blind, va_recv hK hP (ci := 3) (q0 := 11) rfl rfl, zp_r hP hK hN⟩ rfl rfl hl.1 rfl (lv_room (Nat.le_of_ble_eq_true rfl)) dX3_read_84 ⟨Nat.zero_le _, Nat.zero_le _⟩).run ?_
              refine zs_i hx hb hK hP hD hS 16 (f := fun k9 => nI ((zmx i (bef (zmx (σ 0) (trC wd dd σ) r2) (σ 0)) r4) k9)) rfl (by omega) (by decide) dX3_read_87 (fun H locs hP hD9 hS => ?_)
              rw [zupd] at hP
              rw [CX_s16] at hP
              have hP : va_P D vwCl (CX Y A B σ hn h wd dd (zmx (σ 0) (itC wd σ) r0) (zmx (σ 0) (faC wd σ) r1) (zmx (σ 0) (trC wd dd σ) r2) (ordI (bef (zmx (σ 0) (trC wd dd σ) r2) (σ 0)) r3 i) (va_up (zmx i (bef (zmx (σ 0) (trC wd dd σ) r2) (σ 0)) r4) i (bef (zmx (σ 0) (trC wd dd σ) r2) (σ 0) i)) (σ 0) (pak (itC wd σ) (σ 0)) (mkP (fun j => decide (j < σ 0))) wt wn) H := hP
              have hD : va_D FA (CX Y A B σ hn h wd dd (zmx (σ 0) (itC wd σ) r0) (zmx (σ 0) (faC wd σ) r1) (zmx (σ 0) (trC wd dd σ) r2) (ordI (bef (zmx (σ 0) (trC wd dd σ) r2) (σ 0)) r3 i) (va_up (zmx i (bef (zmx (σ 0) (trC wd dd σ) r2) (σ 0)) r4) i (bef (zmx (σ 0) (trC wd dd σ) r2) (σ 0) i)) (σ 0) (pak (itC wd σ) (σ 0)) (mkP (fun j => decide (j < σ 0))) wt wn) := CX_dd hD
              clear hD9
              refine lv_aload_n hx hb dX3_read_88 rfl (lv_at hl 1 rfl) ?_
              refine va_get (D := D) (ci := 3) (v := .ref (A 15)) (C := RX3) (T := TX3) (N := 8) hx hb hts qX3_read_inX3 hown hK hP 11 rfl rfl 3 (by decide) (hts _ qX3_read_Cond_fieldLink_RX3_21_NestedCodes_Reading_order_I_) (fun _ h9 => h9) rfl dX3_read_89 ?_
              refine lv_aload_n hx hb dX3_read_92 rfl (lv_at hl 1 rfl) ?_
              refine va_get (D := D) (ci := 3) (v := .ref (A 16)) (C := RX3) (T := TX3) (N := 8) hx hb hts qX3_read_inX3 hown hK hP 11 rfl rfl 4 (by decide) (hts _ qX3_read_Cond_fieldLink_RX3_24_NestedCodes_Reading_places_I_) (fun _ h9 => h9) rfl dX3_read_93 ?_
              refine lv_iload_n hx hb dX3_read_96 rfl (lv_at hl 0 rfl) ?_
              refine za_i hx hb hK hP 16 (f := fun k9 => nI ((va_up (zmx i (bef (zmx (σ 0) (trC wd dd σ) r2) (σ 0)) r4) i (bef (zmx (σ 0) (trC wd dd σ) r2) (σ 0) i)) k9)) (v := (nI (bef (zmx (σ 0) (trC wd dd σ) r2) (σ 0) i))) rfl (by omega) (by decide) dX3_read_97 (by rw [zu_eq]) ?_
              refine lv_iload_n hx hb dX3_read_98 rfl (lv_at hl 0 rfl) ?_
              refine zs_i hx hb hK hP hD hS 15 (f := fun k9 => nI ((ordI (bef (zmx (σ 0) (trC wd dd σ) r2) (σ 0)) r3 i) k9)) rfl (by omega) (by decide) dX3_read_99 (fun H locs hP hD9 hS => ?_)
              rw [zupd] at hP
              rw [CX_s15] at hP
              have hP : va_P D vwCl (CX Y A B σ hn h wd dd (zmx (σ 0) (itC wd σ) r0) (zmx (σ 0) (faC wd σ) r1) (zmx (σ 0) (trC wd dd σ) r2) (va_up (ordI (bef (zmx (σ 0) (trC wd dd σ) r2) (σ 0)) r3 i) (bef (zmx (σ 0) (trC wd dd σ) r2) (σ 0) i) i) (va_up (zmx i (bef (zmx (σ 0) (trC wd dd σ) r2) (σ 0)) r4) i (bef (zmx (σ 0) (trC wd dd σ) r2) (σ 0) i)) (σ 0) (pak (itC wd σ) (σ 0)) (mkP (fun j => decide (j < σ 0))) wt wn) H := hP
              have hD : va_D FA (CX Y A B σ hn h wd dd (zmx (σ 0) (itC wd σ) r0) (zmx (σ 0) (faC wd σ) r1) (zmx (σ 0) (trC wd dd σ) r2) (va_up (ordI (bef (zmx (σ 0) (trC wd dd σ) r2) (σ 0)) r3 i) (bef (zmx (σ 0) (trC wd dd σ) r2) (σ 0) i) i) (va_up (zmx i (bef (zmx (σ 0) (trC wd dd σ) r2) (σ 0)) r4) i (bef (zmx (σ 0) (trC wd dd σ) r2) (σ 0) i)) (σ 0) (pak (itC wd σ) (σ 0)) (mkP (fun j => decide (j < σ 0))) wt wn) := CX_dd hD
              clear hD9
              refine lv_iinc (v := (nI (i + 1))) (lv' := [(3, .int (nI (i + 1))), (0, .ref (A 11)), (1, .ref (A 1)), (2, .ref (A 7))]) hx hb dX3_read_100 hl (k := 0) rfl (zinc _) (by decide) rfl (fun ls hl => ?_)
              refine lv_goto (tgt := 69) hx hb dX3_read_103 (by decide) ?_
              have e9 : (va_up (zmx i (bef (zmx (σ 0) (trC wd dd σ) r2) (σ 0)) r4) i (bef (zmx (σ 0) (trC wd dd σ) r2) (σ 0) i)) = (zmx (i + 1) (bef (zmx (σ 0) (trC wd dd σ) r2) (σ 0)) r4) := zmx_up i (bef (zmx (σ 0) (trC wd dd σ) r2) (σ 0)) r4
              rw [e9] at hP
              clear e9
              have hP : va_P D vwCl (CX Y A B σ hn h wd dd (zmx (σ 0) (itC wd σ) r0) (zmx (σ 0) (faC wd σ) r1) (zmx (σ 0) (trC wd dd σ) r2) (ordI (bef (zmx (σ 0) (trC wd dd σ) r2) (σ 0)) r3 (i + 1)) (zmx (i + 1) (bef (zmx (σ 0) (trC wd dd σ) r2) (σ 0)) r4) (σ 0) (pak (itC wd σ) (σ 0)) (mkP (fun j => decide (j < σ 0))) wt wn) H := hP
              have hD : va_D FA (CX Y A B σ hn h wd dd (zmx (σ 0) (itC wd σ) r0) (zmx (σ 0) (faC wd σ) r1) (zmx (σ 0) (trC wd dd σ) r2) (ordI (bef (zmx (σ 0) (trC wd dd σ) r2) (σ 0)) r3 (i + 1)) (zmx (i + 1) (bef (zmx (σ 0) (trC wd dd σ) r2) (σ 0)) r4) (σ 0) (pak (itC wd σ) (σ 0)) (mkP (fun j => decide (j < σ 0))) wt wn) := CX_dd hD
              exact ih69 (i + 1) (by omega) (by omega) H locs hP hD hS ls (lv_sub hl [0, 1, 2, 3] rfl)
        have e9 : r4 = (zmx 0 (bef (zmx (σ 0) (trC wd dd σ) r2) (σ 0)) r4) := (zmx_0 _ _).symm
        rw [e9] at hP
        clear e9
        have hP : va_P D vwCl (CX Y A B σ hn h wd dd (zmx (σ 0) (itC wd σ) r0) (zmx (σ 0) (faC wd σ) r1) (zmx (σ 0) (trC wd dd σ) r2) (ordI (bef (zmx (σ 0) (trC wd dd σ) r2) (σ 0)) r3 0) (zmx 0 (bef (zmx (σ 0) (trC wd dd σ) r2) (σ 0)) r4) (σ 0) (pak (itC wd σ) (σ 0)) (mkP (fun j => decide (j < σ 0))) wt wn) H := hP
        have hD : va_D FA (CX Y A B σ hn h wd dd (zmx (σ 0) (itC wd σ) r0) (zmx (σ 0) (faC wd σ) r1) (zmx (σ 0) (trC wd dd σ) r2) (ordI (bef (zmx (σ 0) (trC wd dd σ) r2) (σ 0)) r3 0) (zmx 0 (bef (zmx (σ 0) (trC wd dd σ) r2) (σ 0)) r4) (σ 0) (pak (itC wd σ) (σ 0)) (mkP (fun j => decide (j < σ 0))) wt wn) := CX_dd hD
        exact L69 (σ 0 - 0 + 1) 0 (by omega) (Nat.lt_succ_self _) _ _ hP hD hS ls (lv_sub hl [0, 1, 2, 3] rfl)
      · refine lv_aload_n hx hb dX3_read_34 rfl (lv_at hl 1 rfl) ?_
        refine lv_iload_n hx hb dX3_read_35 rfl (lv_at hl 0 rfl) ?_
        refine lv_aload_n hx hb dX3_read_36 rfl (lv_at hl 2 rfl) ?_
        refine lv_aload_n hx hb dX3_read_37 rfl (lv_at hl 3 rfl) ?_
        refine zc_w (va_runV (As := [.int (nI i), .ref (A 1), .ref (A 7)]) (rest := []) ⟨hx, hb, hml, hown, hts⟩ (c_X3_readBlock l D Y A B σ hn h wd dd (zmx i (itC wd σ) r0) (zmx i (faC wd σ) r1) (zmx i (trC wd dd σ) r2) r3 r4 (σ 0) (pak (itC wd σ) i) (mkP (fun j => decide (j < σ 0))) wt wn i (by omega) kw9 kwd kdd) (cwV 3 hts gX3_read_X3_readBlock rfl rfl rfl (by decide +kernel) (by rw [hR]; exact ⟨Nat.le_of_ble_eq_true rfl, Nat.le_of_ble_eq_true rfl⟩)) ⟨zBw_blind, va_recv hK hP (ci := 3) (q0 := 11) rfl rfl, zp_w hP hD hK hN⟩ rfl rfl hl.1 rfl (lv_room (Nat.le_of_ble_eq_true rfl)) dX3_read_38 ⟨Nat.zero_le _, Nat.zero_le _⟩).run hS (zA_of hD) (fun H locs hP hz hk hS => ?_)
        have hD : va_D FA (CX Y A B σ hn h wd dd (va_up (zmx i (itC wd σ) r0) i (itC wd σ i)) (va_up (zmx i (faC wd σ) r1) i (faC wd σ i)) (va_up (zmx i (trC wd dd σ) r2) i (trC wd dd σ i)) r3 r4 (σ 0) (pak (itC wd σ) i) (mkP (fun j => decide (j < σ 0))) wt wn) := CX_dd hD
        refine lv_aload_n hx hb dX3_read_41 rfl (lv_at hl 1 rfl) ?_
        refine lv_dup hx hb dX3_read_42 rfl ?_
        refine va_get (D := D) (ci := 3) (v := .long (lN (pak (itC wd σ) i))) (C := RX3) (T := TX3) (N := 8) hx hb hts qX3_read_inX3 hown hK hP 11 rfl rfl 6 (by decide) (hts _ qX3_read_Cond_fieldLink_RX3_31_NestedCodes_Reading_packedSymbols_J_) (fun _ h9 => h9) rfl dX3_read_43 ?_
        refine lv_aload_n hx hb dX3_read_46 rfl (lv_at hl 1 rfl) ?_
        refine va_get (D := D) (ci := 3) (v := .ref (A 12)) (C := RX3) (T := TX3) (N := 8) hx hb hts qX3_read_inX3 hown hK hP 11 rfl rfl 0 (by decide) (hts _ qX3_read_Cond_fieldLink_RX3_9_NestedCodes_Reading_symbols_I_) (fun _ h9 => h9) rfl dX3_read_47 ?_
        refine lv_iload_n hx hb dX3_read_50 rfl (lv_at hl 0 rfl) ?_
        refine za_i hx hb hK hP 12 (f := fun k9 => nI ((va_up (zmx i (itC wd σ) r0) i (itC wd σ i)) k9)) (v := (nI (itC wd σ i))) rfl (by omega) (by decide) dX3_read_51 (by rw [zu_eq]) ?_
        refine lv_i2l hx hb dX3_read_52 (v := (lN (itC wd σ i))) (nI_l (by omega)) ?_
        refine lv_iconst (v := (nI 4)) hx hb dX3_read_53 (by decide) ?_
        refine lv_iload_n hx hb dX3_read_54 rfl (lv_at hl 0 rfl) ?_
        refine zv_imul hx hb (v := (nI (4 * i))) dX3_read_55 (pk_mul _ _) ?_
        refine lv_lshl hx hb dX3_read_56 (v := (lN ((itC wd σ i) * 2 ^ (4 * i)))) (wb_shl _ (by omega)) ?_
        refine zv_lor hx hb (v := (lN ((pak (itC wd σ) i) ||| ((itC wd σ i) * 2 ^ (4 * i))))) dX3_read_57 (fb_orL _ _) ?_
        refine va_put (D := D) (ci := 3) (v := .long (lN ((pak (itC wd σ) i) ||| ((itC wd σ i) * 2 ^ (4 * i))))) (ty := .long) (C := RX3) (T := TX3) (N := 8) hx hb hts qX3_read_inX3 tyX3 tyX3_ok nmX3 hown hK hP hD hS 11 rfl rfl 6 (by decide) (hts _ qX3_read_Cond_fieldLink_RX3_31_NestedCodes_Reading_packedSymbols_J_) (fun _ h9 => h9) rfl (by decide +kernel) rfl rfl (Nat.le_of_ble_eq_true rfl) dX3_read_58 (fun H locs hP hD9 hS => ?_)
        rw [CX_f_rp] at hP
        have hP : va_P D vwCl (CX Y A B σ hn h wd dd (va_up (zmx i (itC wd σ) r0) i (itC wd σ i)) (va_up (zmx i (faC wd σ) r1) i (faC wd σ i)) (va_up (zmx i (trC wd dd σ) r2) i (trC wd dd σ i)) r3 r4 (σ 0) ((pak (itC wd σ) i) ||| ((itC wd σ i) * 2 ^ (4 * i))) (mkP (fun j => decide (j < σ 0))) wt wn) H := hP
        have hD : va_D FA (CX Y A B σ hn h wd dd (va_up (zmx i (itC wd σ) r0) i (itC wd σ i)) (va_up (zmx i (faC wd σ) r1) i (faC wd σ i)) (va_up (zmx i (trC wd dd σ) r2) i (trC wd dd σ i)) r3 r4 (σ 0) ((pak (itC wd σ) i) ||| ((itC wd σ i) * 2 ^ (4 * i))) (mkP (fun j => decide (j < σ 0))) wt wn) := CX_dd hD
        clear hD9
        refine lv_iinc (v := (nI (i + 1))) (lv' := [(3, .int (nI (i + 1))), (0, .ref (A 11)), (1, .ref (A 1)), (2, .ref (A 7))]) hx hb dX3_read_61 hl (k := 0) rfl (zinc _) (by decide) rfl (fun ls hl => ?_)
        refine lv_goto (tgt := 26) hx hb dX3_read_64 (by decide) ?_
        have e9 : (va_up (zmx i (itC wd σ) r0) i (itC wd σ i)) = (zmx (i + 1) (itC wd σ) r0) := zmx_up i (itC wd σ) r0
        rw [e9] at hP
        clear e9
        have e9 : (va_up (zmx i (faC wd σ) r1) i (faC wd σ i)) = (zmx (i + 1) (faC wd σ) r1) := zmx_up i (faC wd σ) r1
        rw [e9] at hP
        clear e9
        have e9 : (va_up (zmx i (trC wd dd σ) r2) i (trC wd dd σ i)) = (zmx (i + 1) (trC wd dd σ) r2) := zmx_up i (trC wd dd σ) r2
        rw [e9] at hP
        clear e9
        have hP : va_P D vwCl (CX Y A B σ hn h wd dd (zmx (i + 1) (itC wd σ) r0) (zmx (i + 1) (faC wd σ) r1) (zmx (i + 1) (trC wd dd σ) r2) r3 r4 (σ 0) (pak (itC wd σ) (i + 1)) (mkP (fun j => decide (j < σ 0))) wt wn) H := hP
        have hD : va_D FA (CX Y A B σ hn h wd dd (zmx (i + 1) (itC wd σ) r0) (zmx (i + 1) (faC wd σ) r1) (zmx (i + 1) (trC wd dd σ) r2) r3 r4 (σ 0) (pak (itC wd σ) (i + 1)) (mkP (fun j => decide (j < σ 0))) wt wn) := CX_dd hD
        exact ih26 (i + 1) (by omega) (by omega) H locs hP hD hS ls (lv_sub hl [0, 1, 2, 3] rfl)
  have e9 : r0 = (zmx 0 (itC wd σ) r0) := (zmx_0 _ _).symm
  rw [e9] at hP
  clear e9
  have e9 : r1 = (zmx 0 (faC wd σ) r1) := (zmx_0 _ _).symm
  rw [e9] at hP
  clear e9
  have e9 : r2 = (zmx 0 (trC wd dd σ) r2) := (zmx_0 _ _).symm
  rw [e9] at hP
  clear e9
  have hP : va_P D vwCl (CX Y A B σ hn h wd dd (zmx 0 (itC wd σ) r0) (zmx 0 (faC wd σ) r1) (zmx 0 (trC wd dd σ) r2) r3 r4 (σ 0) (pak (itC wd σ) 0) (mkP (fun j => decide (j < σ 0))) wt wn) H := hP
  have hD : va_D FA (CX Y A B σ hn h wd dd (zmx 0 (itC wd σ) r0) (zmx 0 (faC wd σ) r1) (zmx 0 (trC wd dd σ) r2) r3 r4 (σ 0) (pak (itC wd σ) 0) (mkP (fun j => decide (j < σ 0))) wt wn) := CX_dd hD
  exact L26 (σ 0 - 0 + 1) 0 (by omega) (Nat.lt_succ_self _) _ _ hP hD hS ls (lv_sub hl [0, 1, 2, 3] rfl)
theorem qX5_readAgain_Cond_fieldLink_RX5_26_NestedCodes_inner_LNestedCodes_InnerCode_ : Cond.fieldLink RX5 26 "NestedCodes" "inner" "LNestedCodes$InnerCode;" ∈ wsX5_readAgain := by decide +kernel
theorem qX5_readAgain_inX5 : ∀ w ∈ wsX50, w ∈ wsX5_readAgain := by decide +kernel
theorem qX5_readAgain_Cond_fieldLink_RX5_10_NestedCodes_state_LNestedCodes_State_ : Cond.fieldLink RX5 10 "NestedCodes" "state" "LNestedCodes$State;" ∈ wsX5_readAgain := by decide +kernel
theorem qX5_readAgain_inX4 : ∀ w ∈ wsX40, w ∈ wsX5_readAgain := by decide +kernel
theorem qX5_readAgain_Cond_initialized_RX1 : Cond.initialized RX1 ∈ wsX5_readAgain := by decide +kernel
theorem qX5_readAgain_Cond_instanceMethod_yX1_setGenerators : Cond.instanceMethod yX1_setGenerators ∈ wsX5_readAgain := by decide +kernel
theorem qX5_readAgain_Cond_selects_RX1_yX1_setGenerators_yX1_setGenerators : Cond.selects RX1 yX1_setGenerators yX1_setGenerators ∈ wsX5_readAgain := by decide +kernel
theorem qX5_readAgain_Cond_fieldLink_RX5_40_NestedCodes_reading_LNestedCodes_Reading_ : Cond.fieldLink RX5 40 "NestedCodes" "reading" "LNestedCodes$Reading;" ∈ wsX5_readAgain := by decide +kernel
theorem qX5_readAgain_Cond_initialized_RX3 : Cond.initialized RX3 ∈ wsX5_readAgain := by decide +kernel
theorem qX5_readAgain_Cond_instanceMethod_yX3_read : Cond.instanceMethod yX3_read ∈ wsX5_readAgain := by decide +kernel
theorem qX5_readAgain_Cond_selects_RX3_yX3_read_yX3_read : Cond.selects RX3 yX3_read yX3_read ∈ wsX5_readAgain := by decide +kernel
set_option maxHeartbeats 4000000 in
set_option maxRecDepth 100000 in
theorem c_X5_readAgain (l : Launch) (D : va_G) (Y : Nat → ClassId) (A : Nat → Nat) (B : Nat → Nat) (σ : Nat → Nat) (hn : Nat) (h : Nat → Nat → Nat) (wd : Nat → Nat) (dd : Nat) (r0 : Nat → Nat) (r1 : Nat → Nat) (r2 : Nat → Nat) (r3 : Nat → Nat) (r4 : Nat → Nat) (rl : Nat) (rp : Nat) (rb : Nat) (wt : Nat → Nat) (wn : Nat)   (kσ : zWF σ) : Met l yX5_readAgain wsX5_readAgain ({ frames := 5, cells := 0, slots := 0, locals := 112 } : Room) (va_Pc [.ref (A 0)] (zBw D Y (CX Y A B σ hn h wd dd r0 r1 r2 r3 r4 rl rp rb wt wn))) (zW none D (CX Y A B σ hn h (wdS σ) (ddS σ) (ag0 σ r0) (ag1 σ r1) (ag2 σ r2) (ag3 σ r2 r3) (ag4 σ r2 r4) (σ 0) (pak (itC (wdS σ) σ) (σ 0)) (mkP (fun k9 => decide (k9 < σ 0))) wt wn) (zA (CX Y A B σ hn h wd dd r0 r1 r2 r3 r4 rl rp rb wt wn))) 0 0 (zA (CX Y A B σ hn h wd dd r0 r1 r2 r3 r4 rl rp rb wt wn)) := by
  refine zw_of (cc := cX5_readAgain) (maxL := 1) (ret := none) (by decide) rfl (Nat.le_of_ble_eq_true rfl) ?_
  intro p e s m below meth c R args Q FA hR hx hb hml hr hlk hown hts hK hN hQ hP hD hS ls hl
  have hown : s.vm.findClass RX5 = some m.cls := hown
  have hl : lv_has ls 1 [(0, .ref (A 0))] := hl
  have hS := hS
  have kw := kσ
  obtain ⟨n3, n12, d1, d3, dn, b4, b10, gl, lm, sn, wl, wnz⟩ := kw
  have pb := zp_b b10
  have pk9 := zp_k d3
  suffices hgo : ∀ (H : Heap) (locs : List Loc), va_P D vwCl (CX Y A B σ hn h wd dd r0 r1 r2 r3 r4 rl rp rb wt wn) H → va_S FA s.heap H locs → W p l e R s m args below meth c H locs 0 0 Q (F0 m 0 ls []) from hgo _ _ hP hS
  clear hP hS
  intro H locs hP hS
  refine lv_aload_n hx hb dX5_readAgain_0 rfl (lv_at hl 0 rfl) ?_
  refine va_get (D := D) (ci := 5) (v := .ref (A 7)) (C := RX5) (T := TX5) (N := 7) hx hb hts qX5_readAgain_inX5 hown hK hP 0 rfl rfl 2 (by decide) (hts _ qX5_readAgain_Cond_fieldLink_RX5_26_NestedCodes_inner_LNestedCodes_InnerCode_) (fun _ h9 => h9) rfl dX5_readAgain_1 ?_
  refine lv_aload_n hx hb dX5_readAgain_4 rfl (lv_at hl 0 rfl) ?_
  refine va_get (D := D) (ci := 5) (v := .ref (A 1)) (C := RX5) (T := TX5) (N := 7) hx hb hts qX5_readAgain_inX5 hown hK hP 0 rfl rfl 0 (by decide) (hts _ qX5_readAgain_Cond_fieldLink_RX5_10_NestedCodes_state_LNestedCodes_State_) (fun _ h9 => h9) rfl dX5_readAgain_5 ?_
  refine va_getN (D := D) (ci := 4) (v := .ref (A 2)) (C := RX4) (T := TX4) (N := 7) hx hb hts qX5_readAgain_inX4 hown hK hP 1 rfl rfl 3 (by decide) (kN_X5_75 hN) (fun _ h9 => h9) rfl dX5_readAgain_8 ?_
  refine zc_w (va_runVN (C := RX1) (As := [.ref (A 2)]) (rest := []) ⟨hx, hb, hml, hown, hts⟩ (c_X1_setGenerators l D Y A B σ hn h wd dd r0 r1 r2 r3 r4 rl rp rb wt wn  (fun j hj => Nat.lt_of_lt_of_le (zg_b kσ j hj) (zp_b b10))) ⟨(va_cnB 1 hts gX5_readAgain_X1_setGenerators_n203 rfl rfl rfl (kM_X5_203 hN) (hts _ qX5_readAgain_Cond_initialized_RX1) (by decide +kernel) (by rw [hR]; exact ⟨Nat.le_of_ble_eq_true rfl, Nat.le_of_ble_eq_true rfl⟩)), (hts _ qX5_readAgain_Cond_instanceMethod_yX1_setGenerators), (hts _ qX5_readAgain_Cond_selects_RX1_yX1_setGenerators_yX1_setGenerators)⟩ ⟨zBw_blind, va_recv hK hP (ci := 1) (q0 := 7) rfl rfl, zp_w hP hD hK hN⟩ rfl rfl hl.1 rfl (lv_room (Nat.le_of_ble_eq_true rfl)) dX5_readAgain_11 ⟨Nat.zero_le _, Nat.zero_le _⟩).run hS (zA_of hD) (fun H locs hP hz hk hS => ?_)
  have hD : va_D FA (CX Y A B σ hn h (wdS σ) (ddS σ) r0 r1 r2 r3 r4 rl rp rb wt wn) := CX_dd hD
  refine lv_aload_n hx hb dX5_readAgain_14 rfl (lv_at hl 0 rfl) ?_
  refine va_get (D := D) (ci := 5) (v := .ref (A 11)) (C := RX5) (T := TX5) (N := 7) hx hb hts qX5_readAgain_inX5 hown hK hP 0 rfl rfl 4 (by decide) (hts _ qX5_readAgain_Cond_fieldLink_RX5_40_NestedCodes_reading_LNestedCodes_Reading_) (fun _ h9 => h9) rfl dX5_readAgain_15 ?_
  refine lv_aload_n hx hb dX5_readAgain_18 rfl (lv_at hl 0 rfl) ?_
  refine va_get (D := D) (ci := 5) (v := .ref (A 1)) (C := RX5) (T := TX5) (N := 7) hx hb hts qX5_readAgain_inX5 hown hK hP 0 rfl rfl 0 (by decide) (hts _ qX5_readAgain_Cond_fieldLink_RX5_10_NestedCodes_state_LNestedCodes_State_) (fun _ h9 => h9) rfl dX5_readAgain_19 ?_
  refine lv_aload_n hx hb dX5_readAgain_22 rfl (lv_at hl 0 rfl) ?_
  refine va_get (D := D) (ci := 5) (v := .ref (A 7)) (C := RX5) (T := TX5) (N := 7) hx hb hts qX5_readAgain_inX5 hown hK hP 0 rfl rfl 2 (by decide) (hts _ qX5_readAgain_Cond_fieldLink_RX5_26_NestedCodes_inner_LNestedCodes_InnerCode_) (fun _ h9 => h9) rfl dX5_readAgain_23 ?_
  refine zc_w (va_runVN (C := RX3) (As := [.ref (A 1), .ref (A 7)]) (rest := []) ⟨hx, hb, hml, hown, hts⟩ (c_X3_read l D Y A B σ hn h (wdS σ) (ddS σ) r0 r1 r2 r3 r4 rl rp rb wt wn  n12 (fun j hj => zw_1024 kσ hj) (fun j hj => zwd_1024 kσ j) (Nat.le_trans (dd_le σ) (by decide))) ⟨(va_cnB 2 hts gX5_readAgain_X3_read_n207 rfl rfl rfl (kM_X5_207 hN) (hts _ qX5_readAgain_Cond_initialized_RX3) (by decide +kernel) (by rw [hR]; exact ⟨Nat.le_of_ble_eq_true rfl, Nat.le_of_ble_eq_true rfl⟩)), (hts _ qX5_readAgain_Cond_instanceMethod_yX3_read), (hts _ qX5_readAgain_Cond_selects_RX3_yX3_read_yX3_read)⟩ ⟨zBw_blind, va_recv hK hP (ci := 3) (q0 := 11) rfl rfl, zp_w hP hD hK hN⟩ rfl rfl hl.1 rfl (lv_room (Nat.le_of_ble_eq_true rfl)) dX5_readAgain_26 ⟨Nat.zero_le _, Nat.zero_le _⟩).run hS (zA_of hD) (fun H locs hP hz hk hS => ?_)
  have hD : va_D FA (CX Y A B σ hn h (wdS σ) (ddS σ) (zmx (σ 0) (itC (wdS σ) σ) r0) (zmx (σ 0) (faC (wdS σ) σ) r1) (zmx (σ 0) (trC (wdS σ) (ddS σ) σ) r2) (ordI (bef (zmx (σ 0) (trC (wdS σ) (ddS σ) σ) r2) (σ 0)) r3 (σ 0)) (zmx (σ 0) (bef (zmx (σ 0) (trC (wdS σ) (ddS σ) σ) r2) (σ 0)) r4) (σ 0) (pak (itC (wdS σ) σ) (σ 0)) (mkP (fun k9 => decide (k9 < σ 0))) wt wn) := CX_dd hD
  exact zw_v hx hb hr hlk hQ hS dX5_readAgain_29 (hP)
