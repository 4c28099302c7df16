theorem kM_X5_176 {s : State} (hN : zNw s) : va_Nw (Cond.methodLinkNest RX5 176 yX4_messages "NestedCodes") s := show va_Nw (Cond.methodLinkNest RX5 176 yX4_messages "NestedCodes") s from hN.2 ("NestedCodes", 176, yX4_messages, "NestedCodes") (by decide +kernel)
theorem kN_X5_55 {args : Array Value} {s : State} (hN : zNw s) : (Cond.fieldLinkNest RX5 55 "NestedCodes$State" "length" "I" "NestedCodes").before args s = true := va_Nw.use (w := Cond.fieldLinkNest RX5 55 "NestedCodes$State" "length" "I" "NestedCodes") rfl (show va_Nw (Cond.fieldLinkNest RX5 55 "NestedCodes$State" "length" "I" "NestedCodes") s from hN.1 ("NestedCodes", 55, "NestedCodes$State", "length", "I", "NestedCodes") (by decide +kernel))
theorem kN_X5_122 {args : Array Value} {s : State} (hN : zNw s) : (Cond.fieldLinkNest RX5 122 "NestedCodes$State" "sentMessage" "I" "NestedCodes").before args s = true := va_Nw.use (w := Cond.fieldLinkNest RX5 122 "NestedCodes$State" "sentMessage" "I" "NestedCodes") rfl (show va_Nw (Cond.fieldLinkNest RX5 122 "NestedCodes$State" "sentMessage" "I" "NestedCodes") s from hN.1 ("NestedCodes", 122, "NestedCodes$State", "sentMessage", "I", "NestedCodes") (by decide +kernel))
theorem kM_X5_114 {s : State} (hN : zNw s) : va_Nw (Cond.methodLinkNest RX5 114 yX2_codeword "NestedCodes") s := show va_Nw (Cond.methodLinkNest RX5 114 yX2_codeword "NestedCodes") s from hN.2 ("NestedCodes", 114, yX2_codeword, "NestedCodes") (by decide +kernel)
theorem kN_X5_101 {args : Array Value} {s : State} (hN : zNw s) : (Cond.fieldLinkNest RX5 101 "NestedCodes$InnerCode" "words" "[I" "NestedCodes").before args s = true := va_Nw.use (w := Cond.fieldLinkNest RX5 101 "NestedCodes$InnerCode" "words" "[I" "NestedCodes") rfl (show va_Nw (Cond.fieldLinkNest RX5 101 "NestedCodes$InnerCode" "words" "[I" "NestedCodes") s from hN.1 ("NestedCodes", 101, "NestedCodes$InnerCode", "words", "[I", "NestedCodes") (by decide +kernel))
theorem kN_X5_138 {args : Array Value} {s : State} (hN : zNw s) : (Cond.fieldLinkNest RX5 138 "NestedCodes$State" "lost" "[Z" "NestedCodes").before args s = true := va_Nw.use (w := Cond.fieldLinkNest RX5 138 "NestedCodes$State" "lost" "[Z" "NestedCodes") rfl (show va_Nw (Cond.fieldLinkNest RX5 138 "NestedCodes$State" "lost" "[Z" "NestedCodes") s from hN.1 ("NestedCodes", 138, "NestedCodes$State", "lost", "[Z", "NestedCodes") (by decide +kernel))
theorem kN_X5_128 {args : Array Value} {s : State} (hN : zNw s) : (Cond.fieldLinkNest RX5 128 "NestedCodes$State" "words" "[I" "NestedCodes").before args s = true := va_Nw.use (w := Cond.fieldLinkNest RX5 128 "NestedCodes$State" "words" "[I" "NestedCodes") rfl (show va_Nw (Cond.fieldLinkNest RX5 128 "NestedCodes$State" "words" "[I" "NestedCodes") s from hN.1 ("NestedCodes", 128, "NestedCodes$State", "words", "[I", "NestedCodes") (by decide +kernel))
theorem kN_X5_72 {args : Array Value} {s : State} (hN : zNw s) : (Cond.fieldLinkNest RX5 72 "NestedCodes$State" "bits" "I" "NestedCodes").before args s = true := va_Nw.use (w := Cond.fieldLinkNest RX5 72 "NestedCodes$State" "bits" "I" "NestedCodes") rfl (show va_Nw (Cond.fieldLinkNest RX5 72 "NestedCodes$State" "bits" "I" "NestedCodes") s from hN.1 ("NestedCodes", 72, "NestedCodes$State", "bits", "I", "NestedCodes") (by decide +kernel))
theorem kN_X5_78 {args : Array Value} {s : State} (hN : zNw s) : (Cond.fieldLinkNest RX5 78 "NestedCodes$InnerCode" "distance" "I" "NestedCodes").before args s = true := va_Nw.use (w := Cond.fieldLinkNest RX5 78 "NestedCodes$InnerCode" "distance" "I" "NestedCodes") rfl (show va_Nw (Cond.fieldLinkNest RX5 78 "NestedCodes$InnerCode" "distance" "I" "NestedCodes") s from hN.1 ("NestedCodes", 78, "NestedCodes$InnerCode", "distance", "I", "NestedCodes") (by decide +kernel))
theorem kM_X5_87 {s : State} (hN : zNw s) : va_Nw (Cond.methodLinkNest RX5 87 yX4_outerDistance "NestedCodes") s := show va_Nw (Cond.methodLinkNest RX5 87 yX4_outerDistance "NestedCodes") s from hN.2 ("NestedCodes", 87, yX4_outerDistance, "NestedCodes") (by decide +kernel)
theorem kM_X5_219 {s : State} (hN : zNw s) : va_Nw (Cond.methodLinkNest RX5 219 yX3_differingBlocks "NestedCodes") s := show va_Nw (Cond.methodLinkNest RX5 219 yX3_differingBlocks "NestedCodes") s from hN.2 ("NestedCodes", 219, yX3_differingBlocks, "NestedCodes") (by decide +kernel)
theorem kM_X5_183 {s : State} (hN : zNw s) : va_Nw (Cond.methodLinkNest RX5 183 yX3_scoreOf "NestedCodes") s := show va_Nw (Cond.methodLinkNest RX5 183 yX3_scoreOf "NestedCodes") s from hN.2 ("NestedCodes", 183, yX3_scoreOf, "NestedCodes") (by decide +kernel)
theorem kN_X5_158 {args : Array Value} {s : State} (hN : zNw s) : (Cond.fieldLinkNest RX5 158 "NestedCodes$Reading" "reliabilities" "[I" "NestedCodes").before args s = true := va_Nw.use (w := Cond.fieldLinkNest RX5 158 "NestedCodes$Reading" "reliabilities" "[I" "NestedCodes") rfl (show va_Nw (Cond.fieldLinkNest RX5 158 "NestedCodes$Reading" "reliabilities" "[I" "NestedCodes") s from hN.1 ("NestedCodes", 158, "NestedCodes$Reading", "reliabilities", "[I", "NestedCodes") (by decide +kernel))
theorem kN_X5_155 {args : Array Value} {s : State} (hN : zNw s) : (Cond.fieldLinkNest RX5 155 "NestedCodes$Reading" "symbols" "[I" "NestedCodes").before args s = true := va_Nw.use (w := Cond.fieldLinkNest RX5 155 "NestedCodes$Reading" "symbols" "[I" "NestedCodes") rfl (show va_Nw (Cond.fieldLinkNest RX5 155 "NestedCodes$Reading" "symbols" "[I" "NestedCodes") s from hN.1 ("NestedCodes", 155, "NestedCodes$Reading", "symbols", "[I", "NestedCodes") (by decide +kernel))
theorem kM_X5_227 {s : State} (hN : zNw s) : va_Nw (Cond.methodLinkNest RX5 227 yX1_symbolOf "NestedCodes") s := show va_Nw (Cond.methodLinkNest RX5 227 yX1_symbolOf "NestedCodes") s from hN.2 ("NestedCodes", 227, yX1_symbolOf, "NestedCodes") (by decide +kernel)
theorem kM_X5_230 {s : State} (hN : zNw s) : va_Nw (Cond.methodLinkNest RX5 230 yX1_bitsBetween "NestedCodes") s := show va_Nw (Cond.methodLinkNest RX5 230 yX1_bitsBetween "NestedCodes") s from hN.2 ("NestedCodes", 230, yX1_bitsBetween, "NestedCodes") (by decide +kernel)
theorem kM_X5_233 {s : State} (hN : zNw s) : va_Nw (Cond.methodLinkNest RX5 233 yX1_reliability "NestedCodes") s := show va_Nw (Cond.methodLinkNest RX5 233 yX1_reliability "NestedCodes") s from hN.2 ("NestedCodes", 233, yX1_reliability, "NestedCodes") (by decide +kernel)
theorem kM_X5_236 {s : State} (hN : zNw s) : va_Nw (Cond.methodLinkNest RX5 236 yX2_markSymbols "NestedCodes") s := show va_Nw (Cond.methodLinkNest RX5 236 yX2_markSymbols "NestedCodes") s from hN.2 ("NestedCodes", 236, yX2_markSymbols, "NestedCodes") (by decide +kernel)
theorem kM_X5_239 {s : State} (hN : zNw s) : va_Nw (Cond.methodLinkNest RX5 239 yX2_marks "NestedCodes") s := show va_Nw (Cond.methodLinkNest RX5 239 yX2_marks "NestedCodes") s from hN.2 ("NestedCodes", 239, yX2_marks, "NestedCodes") (by decide +kernel)
theorem qJ13_bitCount_95d88_Cond_constantLong_RJ13_314_6148914691236517205_ : Cond.constantLong RJ13 314 (6148914691236517205) ∈ wsJ13_bitCount_95d88 := by decide +kernel
theorem qJ13_bitCount_95d88_Cond_constantLong_RJ13_316_3689348814741910323_ : Cond.constantLong RJ13 316 (3689348814741910323) ∈ wsJ13_bitCount_95d88 := by decide +kernel
theorem qJ13_bitCount_95d88_Cond_constantLong_RJ13_318_1085102592571150095_ : Cond.constantLong RJ13 318 (1085102592571150095) ∈ wsJ13_bitCount_95d88 := by decide +kernel
set_option maxHeartbeats 4000000 in
set_option maxRecDepth 100000 in
theorem c_J13_bitCount_95d88 (l : Launch) (D : va_G) (Y : Nat → ClassId)  (x : Nat) (q9 : Nat → Bool) (hp9 : x = mkP q9) : Met l yJ13_bitCount_95d88 wsJ13_bitCount_95d88 ({ frames := 0, cells := 0, slots := 0, locals := 0 } : Room) (va_Pc [.long (lN (x))] (zB D Y ([]))) (zR (.int (nI (cnt (q9) 12)))) 0 0 (fun _ => False) := by
  refine zr_of (cc := cJ13_bitCount_95d88) (maxL := 2) (ret := (some .int)) (by decide) rfl (Nat.le_of_ble_eq_true rfl) ?_
  intro p e s m below meth c R args Q hR hx hb hml hr hlk hown hts hK hN hP hQ ls hl
  have hown : s.vm.findClass RJ13 = some m.cls := hown
  have hl : lv_has ls 2 [(0, .long (lN (x)))] := hl
  have hx0 : x < 281474976710656 := by rw [hp9]; exact mkP_lt q9
  refine lv_lload_n hx hb dJ13_bitCount_95d88_0 rfl (lv_at hl 0 rfl) ?_
  refine lv_lload_n hx hb dJ13_bitCount_95d88_1 rfl (lv_at hl 0 rfl) ?_
  refine lv_iconst (v := (nI 1)) hx hb dJ13_bitCount_95d88_2 (by decide) ?_
  refine lv_lushr hx hb dJ13_bitCount_95d88_3 (v := (lN (x / 2 ^ 1))) (wb_shr (by omega) (by omega)) ?_
  refine lv_ldc2 hx hb hown (hts _ qJ13_bitCount_95d88_Cond_constantLong_RJ13_314_6148914691236517205_) dJ13_bitCount_95d88_4 ?_
  refine zt_l (v := lN 6148914691236517205) (by rfl) ?_
  refine zv_land hx hb (v := (lN ((x / 2 ^ 1) &&& 6148914691236517205))) dJ13_bitCount_95d88_7 (fb_andL _ _) ?_
  refine zv_lsub hx hb (v := (lN (x - ((x / 2 ^ 1) &&& 6148914691236517205)))) dJ13_bitCount_95d88_8 (lN_sub (Nat.le_trans Nat.and_le_left (by omega))) ?_
  obtain ⟨v1, e1⟩ : ∃ z, z = x - (x / 2 ^ 1 &&& 6148914691236517205) := ⟨_, rfl⟩
  refine zt_l (v := (lN (v1))) (by rw [e1]) ?_
  refine lv_lstore_n (lv' := [(0, .long (lN (v1)))]) hx hb dJ13_bitCount_95d88_9 rfl hl (by decide) rfl (fun ls hl => ?_)
  refine lv_lload_n hx hb dJ13_bitCount_95d88_10 rfl (lv_at hl 0 rfl) ?_
  refine lv_ldc2 hx hb hown (hts _ qJ13_bitCount_95d88_Cond_constantLong_RJ13_316_3689348814741910323_) dJ13_bitCount_95d88_11 ?_
  refine zt_l (v := lN 3689348814741910323) (by rfl) ?_
  refine zv_land hx hb (v := (lN (v1 &&& 3689348814741910323))) dJ13_bitCount_95d88_14 (fb_andL _ _) ?_
  refine lv_lload_n hx hb dJ13_bitCount_95d88_15 rfl (lv_at hl 0 rfl) ?_
  refine lv_iconst (v := (nI 2)) hx hb dJ13_bitCount_95d88_16 (by decide) ?_
  refine lv_lushr hx hb dJ13_bitCount_95d88_17 (v := (lN (v1 / 2 ^ 2))) (wb_shr (by omega) (by omega)) ?_
  refine lv_ldc2 hx hb hown (hts _ qJ13_bitCount_95d88_Cond_constantLong_RJ13_316_3689348814741910323_) dJ13_bitCount_95d88_18 ?_
  refine zt_l (v := lN 3689348814741910323) (by rfl) ?_
  refine zv_land hx hb (v := (lN ((v1 / 2 ^ 2) &&& 3689348814741910323))) dJ13_bitCount_95d88_21 (fb_andL _ _) ?_
  refine zv_ladd hx hb (v := (lN ((v1 &&& 3689348814741910323) + ((v1 / 2 ^ 2) &&& 3689348814741910323)))) dJ13_bitCount_95d88_22 (lN_add _ _) ?_
  have b1 : v1 &&& 3689348814741910323 ≤ v1 := Nat.and_le_left
  have b2 : v1 / 2 ^ 2 &&& 3689348814741910323 ≤ v1 / 2 ^ 2 := Nat.and_le_left
  obtain ⟨v2, e2⟩ : ∃ z, z = (v1 &&& 3689348814741910323) + (v1 / 2 ^ 2 &&& 3689348814741910323) := ⟨_, rfl⟩
  refine zt_l (v := (lN (v2))) (by rw [e2]) ?_
  refine lv_lstore_n (lv' := [(0, .long (lN (v2)))]) hx hb dJ13_bitCount_95d88_23 rfl hl (by decide) rfl (fun ls hl => ?_)
  refine lv_lload_n hx hb dJ13_bitCount_95d88_24 rfl (lv_at hl 0 rfl) ?_
  refine lv_lload_n hx hb dJ13_bitCount_95d88_25 rfl (lv_at hl 0 rfl) ?_
  refine lv_iconst (v := (nI 4)) hx hb dJ13_bitCount_95d88_26 (by decide) ?_
  refine lv_lushr hx hb dJ13_bitCount_95d88_27 (v := (lN (v2 / 2 ^ 4))) (wb_shr (by omega) (by omega)) ?_
  refine zv_ladd hx hb (v := (lN (v2 + (v2 / 2 ^ 4)))) dJ13_bitCount_95d88_28 (lN_add _ _) ?_
  refine lv_ldc2 hx hb hown (hts _ qJ13_bitCount_95d88_Cond_constantLong_RJ13_318_1085102592571150095_) dJ13_bitCount_95d88_29 ?_
  refine zt_l (v := lN 1085102592571150095) (by rfl) ?_
  refine zv_land hx hb (v := (lN ((v2 + (v2 / 2 ^ 4)) &&& 1085102592571150095))) dJ13_bitCount_95d88_32 (fb_andL _ _) ?_
  have b3 : (v2 + v2 / 2 ^ 4) &&& 1085102592571150095 ≤ v2 + v2 / 2 ^ 4 := Nat.and_le_left
  obtain ⟨v3, e3⟩ : ∃ z, z = (v2 + v2 / 2 ^ 4) &&& 1085102592571150095 := ⟨_, rfl⟩
  refine zt_l (v := (lN (v3))) (by rw [e3]) ?_
  refine lv_lstore_n (lv' := [(0, .long (lN (v3)))]) hx hb dJ13_bitCount_95d88_33 rfl hl (by decide) rfl (fun ls hl => ?_)
  refine lv_lload_n hx hb dJ13_bitCount_95d88_34 rfl (lv_at hl 0 rfl) ?_
  refine lv_lload_n hx hb dJ13_bitCount_95d88_35 rfl (lv_at hl 0 rfl) ?_
  refine lv_bipush (v := (nI 8)) hx hb dJ13_bitCount_95d88_36 (by decide) ?_
  refine lv_lushr hx hb dJ13_bitCount_95d88_38 (v := (lN (v3 / 2 ^ 8))) (wb_shr (by omega) (by omega)) ?_
  refine zv_ladd hx hb (v := (lN (v3 + (v3 / 2 ^ 8)))) dJ13_bitCount_95d88_39 (lN_add _ _) ?_
  obtain ⟨v4, e4⟩ : ∃ z, z = v3 + v3 / 2 ^ 8 := ⟨_, rfl⟩
  refine zt_l (v := (lN (v4))) (by rw [e4]) ?_
  refine lv_lstore_n (lv' := [(0, .long (lN (v4)))]) hx hb dJ13_bitCount_95d88_40 rfl hl (by decide) rfl (fun ls hl => ?_)
  refine lv_lload_n hx hb dJ13_bitCount_95d88_41 rfl (lv_at hl 0 rfl) ?_
  refine lv_lload_n hx hb dJ13_bitCount_95d88_42 rfl (lv_at hl 0 rfl) ?_
  refine lv_bipush (v := (nI 16)) hx hb dJ13_bitCount_95d88_43 (by decide) ?_
  refine lv_lushr hx hb dJ13_bitCount_95d88_45 (v := (lN (v4 / 2 ^ 16))) (wb_shr (by omega) (by omega)) ?_
  refine zv_ladd hx hb (v := (lN (v4 + (v4 / 2 ^ 16)))) dJ13_bitCount_95d88_46 (lN_add _ _) ?_
  obtain ⟨v5, e5⟩ : ∃ z, z = v4 + v4 / 2 ^ 16 := ⟨_, rfl⟩
  refine zt_l (v := (lN (v5))) (by rw [e5]) ?_
  refine lv_lstore_n (lv' := [(0, .long (lN (v5)))]) hx hb dJ13_bitCount_95d88_47 rfl hl (by decide) rfl (fun ls hl => ?_)
  refine lv_lload_n hx hb dJ13_bitCount_95d88_48 rfl (lv_at hl 0 rfl) ?_
  refine lv_lload_n hx hb dJ13_bitCount_95d88_49 rfl (lv_at hl 0 rfl) ?_
  refine lv_bipush (v := (nI 32)) hx hb dJ13_bitCount_95d88_50 (by decide) ?_
  refine lv_lushr hx hb dJ13_bitCount_95d88_52 (v := (lN (v5 / 2 ^ 32))) (wb_shr (by omega) (by omega)) ?_
  refine zv_ladd hx hb (v := (lN (v5 + (v5 / 2 ^ 32)))) dJ13_bitCount_95d88_53 (lN_add _ _) ?_
  obtain ⟨v6, e6⟩ : ∃ z, z = v5 + v5 / 2 ^ 32 := ⟨_, rfl⟩
  refine zt_l (v := (lN (v6))) (by rw [e6]) ?_
  refine lv_lstore_n (lv' := [(0, .long (lN (v6)))]) hx hb dJ13_bitCount_95d88_54 rfl hl (by decide) rfl (fun ls hl => ?_)
  refine lv_lload_n hx hb dJ13_bitCount_95d88_55 rfl (lv_at hl 0 rfl) ?_
  refine lv_l2i hx hb dJ13_bitCount_95d88_56 (v := (nI v6)) (lN_i _) ?_
  refine lv_bipush (v := (nI 127)) hx hb dJ13_bitCount_95d88_57 (by decide) ?_
  refine zv_iand hx hb (v := (nI (v6 &&& 127))) dJ13_bitCount_95d88_59 (nx_and _ _) ?_
  exact zr_i hx hb hr hlk hQ dJ13_bitCount_95d88_60 (by rw [← zswL_ok q9, ← hp9, e6, e5, e4, e3, e2, e1]; rfl)

theorem qX5_isMessage_Cond_fieldLink_RX5_10_NestedCodes_state_LNestedCodes_State_ : Cond.fieldLink RX5 10 "NestedCodes" "state" "LNestedCodes$State;" ∈ wsX5_isMessage := by decide +kernel
theorem qX5_isMessage_inX5 : ∀ w ∈ wsX50, w ∈ wsX5_isMessage := by decide +kernel
theorem qX5_isMessage_Cond_initialized_RX4 : Cond.initialized RX4 ∈ wsX5_isMessage := by decide +kernel
theorem qX5_isMessage_Cond_instanceMethod_yX4_messages : Cond.instanceMethod yX4_messages ∈ wsX5_isMessage := by decide +kernel
theorem qX5_isMessage_Cond_selects_RX4_yX4_messages_yX4_messages : Cond.selects RX4 yX4_messages yX4_messages ∈ wsX5_isMessage := by decide +kernel
set_option maxHeartbeats 4000000 in
set_option maxRecDepth 100000 in
theorem c_X5_isMessage (l : Launch) (D : va_G) (Y : Nat → ClassId) (A : Nat → Nat) (B : Nat → Nat) (σ : Nat → Nat) (hn : Nat) (h : Nat → Nat → Nat) (wd : Nat → Nat) (dd : Nat) (r0 : Nat → Nat) (r1 : Nat → Nat) (r2 : Nat → Nat) (r3 : Nat → Nat) (r4 : Nat → Nat) (rl : Nat) (rp : Nat) (rb : Nat) (wt : Nat → Nat) (wn : Nat) (x : Int32)  (kσ : zWF σ) : Met l yX5_isMessage wsX5_isMessage ({ frames := 1, cells := 0, slots := 0, locals := 20 } : Room) (va_Pc [.ref (A 0), .int (x)] (zB D Y (CX Y A B σ hn h wd dd r0 r1 r2 r3 r4 rl rp rb wt wn))) (zR (.int (zq (0 ≤ (x).toInt ∧ (x).toInt < ((2 ^ (4 * σ 1) : Nat) : Int))))) 0 0 (fun _ => False) := by
  refine zr_of (cc := cX5_isMessage) (maxL := 2) (ret := (some .boolean)) (by decide) rfl (Nat.le_of_ble_eq_true rfl) ?_
  intro p e s m below meth c R args Q hR hx hb hml hr hlk hown hts hK hN hP hQ ls hl
  have hown : s.vm.findClass RX5 = some m.cls := hown
  have hl : lv_has ls 2 [(0, .ref (A 0)), (1, .int (x))] := hl
  have kw := kσ
  obtain ⟨n3, n12, d1, d3, dn, b4, b10, gl, lm, sn, wl, wnz⟩ := kw
  have pb := zp_b b10
  have pk9 := zp_k d3
  refine lv_iload_n hx hb dX5_isMessage_0 rfl (lv_at hl 1 rfl) ?_
  have J20 : W p l e R s m args below meth c s.heap [] 0 0 Q (F0 m 20 ls [.int (zq (0 ≤ (x).toInt ∧ (x).toInt < ((2 ^ (4 * σ 1) : Nat) : Int)))]) := by
    exact zr_z hx hb hr hlk hQ dX5_isMessage_20 (rfl) (by first | exact zq_or _ | decide)
  refine zz_if_lt (tgt := 19) (a := (x).toInt) hx hb dX5_isMessage_1 (by decide) (rfl) (fun c1 => ?_) (fun c1 => ?_)
  · refine lv_iconst (v := (nI 0)) hx hb dX5_isMessage_19 (by decide) ?_
    refine zt_i (v := (zq (0 ≤ (x).toInt ∧ (x).toInt < ((2 ^ (4 * σ 1) : Nat) : Int)))) (by first | exact zq_nt (by omega) | exact zq_nf (by omega)) ?_
    exact J20
  · refine lv_iload_n hx hb dX5_isMessage_4 rfl (lv_at hl 1 rfl) ?_
    refine lv_aload_n hx hb dX5_isMessage_5 rfl (lv_at hl 0 rfl) ?_
    refine va_get (D := D) (ci := 5) (v := .ref (A 1)) (C := RX5) (T := TX5) (N := 7) hx hb hts qX5_isMessage_inX5 hown hK hP 0 rfl rfl 0 (by decide) (hts _ qX5_isMessage_Cond_fieldLink_RX5_10_NestedCodes_state_LNestedCodes_State_) (fun _ h9 => h9) rfl dX5_isMessage_6 ?_
    refine zc_r (va_runVN (C := RX4) (As := []) (rest := [.int (x)]) ⟨hx, hb, hml, hown, hts⟩ (c_X4_messages l D Y A B σ hn h wd dd r0 r1 r2 r3 r4 rl rp rb wt wn  kσ) ⟨(va_cnB 0 hts gX5_isMessage_X4_messages_n176 rfl rfl rfl (kM_X5_176 hN) (hts _ qX5_isMessage_Cond_initialized_RX4) (by decide +kernel) (by rw [hR]; exact ⟨Nat.le_of_ble_eq_true rfl, Nat.le_of_ble_eq_true rfl⟩)), (hts _ qX5_isMessage_Cond_instanceMethod_yX4_messages), (hts _ qX5_isMessage_Cond_selects_RX4_yX4_messages_yX4_messages)⟩ ⟨zB_blind, va_recv hK hP (ci := 4) (q0 := 1) rfl rfl, zp_r hP hK hN⟩ rfl rfl hl.1 rfl (lv_room (Nat.le_of_ble_eq_true rfl)) dX5_isMessage_9 ⟨Nat.zero_le _, Nat.zero_le _⟩).run ?_
    refine zz_icmp_ge (tgt := 19) (a := (x).toInt) (b := (((2 ^ (4 * σ 1) : Nat)) : Int)) hx hb dX5_isMessage_12 (by decide) (rfl) (zt_n (by omega)) (fun c12 => ?_) (fun c12 => ?_)
    · refine lv_iconst (v := (nI 0)) hx hb dX5_isMessage_19 (by decide) ?_
      refine zt_i (v := (zq (0 ≤ (x).toInt ∧ (x).toInt < ((2 ^ (4 * σ 1) : Nat) : Int)))) (by first | exact zq_nt (by omega) | exact zq_nf (by omega)) ?_
      exact J20
    · refine lv_iconst (v := (nI 1)) hx hb dX5_isMessage_15 (by decide) ?_
      refine lv_goto (tgt := 20) hx hb dX5_isMessage_16 (by decide) ?_
      refine zt_i (v := (zq (0 ≤ (x).toInt ∧ (x).toInt < ((2 ^ (4 * σ 1) : Nat) : Int)))) (by first | exact zq_nt (by omega) | exact zq_nf (by omega)) ?_
      exact J20
theorem qX5_isBlock_Cond_fieldLink_RX5_10_NestedCodes_state_LNestedCodes_State_ : Cond.fieldLink RX5 10 "NestedCodes" "state" "LNestedCodes$State;" ∈ wsX5_isBlock := by decide +kernel
theorem qX5_isBlock_inX5 : ∀ w ∈ wsX50, w ∈ wsX5_isBlock := by decide +kernel
theorem qX5_isBlock_inX4 : ∀ w ∈ wsX40, w ∈ wsX5_isBlock := by decide +kernel
set_option maxHeartbeats 4000000 in
set_option maxRecDepth 100000 in
theorem c_X5_isBlock (l : Launch) (D : va_G) (Y : Nat → ClassId) (A : Nat → Nat) (B : Nat → Nat) (σ : Nat → Nat) (hn : Nat) (h : Nat → Nat → Nat) (wd : Nat → Nat) (dd : Nat) (r0 : Nat → Nat) (r1 : Nat → Nat) (r2 : Nat → Nat) (r3 : Nat → Nat) (r4 : Nat → Nat) (rl : Nat) (rp : Nat) (rb : Nat) (wt : Nat → Nat) (wn : Nat) (x : Int32)  (k12 : σ 0 ≤ 12) : Met l yX5_isBlock wsX5_isBlock ({ frames := 0, cells := 0, slots := 0, locals := 0 } : Room) (va_Pc [.ref (A 0), .int (x)] (zB D Y (CX Y A B σ hn h wd dd r0 r1 r2 r3 r4 rl rp rb wt wn))) (zR (.int (zq (0 ≤ (x).toInt ∧ (x).toInt < ((σ 0 : Nat) : Int))))) 0 0 (fun _ => False) := by
  refine zr_of (cc := cX5_isBlock) (maxL := 2) (ret := (some .boolean)) (by decide) rfl (Nat.le_of_ble_eq_true rfl) ?_
  intro p e s m below meth c R args Q hR hx hb hml hr hlk hown hts hK hN hP hQ ls hl
  have hown : s.vm.findClass RX5 = some m.cls := hown
  have hl : lv_has ls 2 [(0, .ref (A 0)), (1, .int (x))] := hl
  refine lv_iload_n hx hb dX5_isBlock_0 rfl (lv_at hl 1 rfl) ?_
  have J20 : W p l e R s m args below meth c s.heap [] 0 0 Q (F0 m 20 ls [.int (zq (0 ≤ (x).toInt ∧ (x).toInt < ((σ 0 : Nat) : Int)))]) := by
    exact zr_z hx hb hr hlk hQ dX5_isBlock_20 (rfl) (by first | exact zq_or _ | decide)
  refine zz_if_lt (tgt := 19) (a := (x).toInt) hx hb dX5_isBlock_1 (by decide) (rfl) (fun c1 => ?_) (fun c1 => ?_)
  · refine lv_iconst (v := (nI 0)) hx hb dX5_isBlock_19 (by decide) ?_
    refine zt_i (v := (zq (0 ≤ (x).toInt ∧ (x).toInt < ((σ 0 : Nat) : Int)))) (by first | exact zq_nt (by omega) | exact zq_nf (by omega)) ?_
    exact J20
  · refine lv_iload_n hx hb dX5_isBlock_4 rfl (lv_at hl 1 rfl) ?_
    refine lv_aload_n hx hb dX5_isBlock_5 rfl (lv_at hl 0 rfl) ?_
    refine va_get (D := D) (ci := 5) (v := .ref (A 1)) (C := RX5) (T := TX5) (N := 7) hx hb hts qX5_isBlock_inX5 hown hK hP 0 rfl rfl 0 (by decide) (hts _ qX5_isBlock_Cond_fieldLink_RX5_10_NestedCodes_state_LNestedCodes_State_) (fun _ h9 => h9) rfl dX5_isBlock_6 ?_
    refine va_getN (D := D) (ci := 4) (v := .int (nI (σ 0))) (C := RX4) (T := TX4) (N := 7) hx hb hts qX5_isBlock_inX4 hown hK hP 1 rfl rfl 0 (by decide) (kN_X5_55 hN) (fun _ h9 => h9) rfl dX5_isBlock_9 ?_
    refine zz_icmp_ge (tgt := 19) (a := (x).toInt) (b := (((σ 0 : Nat)) : Int)) hx hb dX5_isBlock_12 (by decide) (rfl) (zt_n (by omega)) (fun c12 => ?_) (fun c12 => ?_)
    · refine lv_iconst (v := (nI 0)) hx hb dX5_isBlock_19 (by decide) ?_
      refine zt_i (v := (zq (0 ≤ (x).toInt ∧ (x).toInt < ((σ 0 : Nat) : Int)))) (by first | exact zq_nt (by omega) | exact zq_nf (by omega)) ?_
      exact J20
    · refine lv_iconst (v := (nI 1)) hx hb dX5_isBlock_15 (by decide) ?_
      refine lv_goto (tgt := 20) hx hb dX5_isBlock_16 (by decide) ?_
      refine zt_i (v := (zq (0 ≤ (x).toInt ∧ (x).toInt < ((σ 0 : Nat) : Int)))) (by first | exact zq_nt (by omega) | exact zq_nf (by omega)) ?_
      exact J20

theorem qX5_sentSymbol_Cond_fieldLink_RX5_33_NestedCodes_outer_LNestedCodes_OuterCode_ : Cond.fieldLink RX5 33 "NestedCodes" "outer" "LNestedCodes$OuterCode;" ∈ wsX5_sentSymbol := by decide +kernel
theorem qX5_sentSymbol_inX5 : ∀ w ∈ wsX50, w ∈ wsX5_sentSymbol := by decide +kernel
theorem qX5_sentSymbol_Cond_fieldLink_RX5_10_NestedCodes_state_LNestedCodes_State_ : Cond.fieldLink RX5 10 "NestedCodes" "state" "LNestedCodes$State;" ∈ wsX5_sentSymbol := by decide +kernel
theorem qX5_sentSymbol_inX4 : ∀ w ∈ wsX40, w ∈ wsX5_sentSymbol := by decide +kernel
theorem qX5_sentSymbol_Cond_initialized_RX2 : Cond.initialized RX2 ∈ wsX5_sentSymbol := by decide +kernel
theorem qX5_sentSymbol_Cond_instanceMethod_yX2_codeword : Cond.instanceMethod yX2_codeword ∈ wsX5_sentSymbol := by decide +kernel
theorem qX5_sentSymbol_Cond_selects_RX2_yX2_codeword_yX2_codeword : Cond.selects RX2 yX2_codeword yX2_codeword ∈ wsX5_sentSymbol := by decide +kernel
set_option maxHeartbeats 4000000 in
set_option maxRecDepth 100000 in
theorem c_X5_sentSymbol (l : Launch) (D : va_G) (Y : Nat → ClassId) (A : Nat → Nat) (B : Nat → Nat) (σ : Nat → Nat) (hn : Nat) (h : Nat → Nat → Nat) (wd : Nat → Nat) (dd : Nat) (r0 : Nat → Nat) (r1 : Nat → Nat) (r2 : Nat → Nat) (r3 : Nat → Nat) (r4 : Nat → Nat) (rl : Nat) (rp : Nat) (rb : Nat) (wt : Nat → Nat) (wn : Nat) (j : Nat)  (kσ : zWF σ) (hj : j < 12) : Met l yX5_sentSymbol wsX5_sentSymbol ({ frames := 1, cells := 0, slots := 0, locals := 22 } : Room) (va_Pc [.ref (A 0), .int (nI j)] (zB D Y (CX Y A B σ hn h wd dd r0 r1 r2 r3 r4 rl rp rb wt wn))) (zR (.int (nI (zcw (σ 8) j)))) 0 0 (fun _ => False) := by
  refine zr_of (cc := cX5_sentSymbol) (maxL := 2) (ret := (some .int)) (by decide) rfl (Nat.le_of_ble_eq_true rfl) ?_
  intro p e s m below meth c R args Q hR hx hb hml hr hlk hown hts hK hN hP hQ ls hl
  have hown : s.vm.findClass RX5 = some m.cls := hown
  have hl : lv_has ls 2 [(0, .ref (A 0)), (1, .int (nI j))] := hl
  have kw := kσ
  obtain ⟨n3, n12, d1, d3, dn, b4, b10, gl, lm, sn, wl, wnz⟩ := kw
  have pb := zp_b b10
  have pk9 := zp_k d3
  have h8 : σ 8 < 4096 := by omega
  refine lv_aload_n hx hb dX5_sentSymbol_0 rfl (lv_at hl 0 rfl) ?_
  refine va_get (D := D) (ci := 5) (v := .ref (A 9)) (C := RX5) (T := TX5) (N := 7) hx hb hts qX5_sentSymbol_inX5 hown hK hP 0 rfl rfl 3 (by decide) (hts _ qX5_sentSymbol_Cond_fieldLink_RX5_33_NestedCodes_outer_LNestedCodes_OuterCode_) (fun _ h9 => h9) rfl dX5_sentSymbol_1 ?_
  refine lv_aload_n hx hb dX5_sentSymbol_4 rfl (lv_at hl 0 rfl) ?_
  refine va_get (D := D) (ci := 5) (v := .ref (A 1)) (C := RX5) (T := TX5) (N := 7) hx hb hts qX5_sentSymbol_inX5 hown hK hP 0 rfl rfl 0 (by decide) (hts _ qX5_sentSymbol_Cond_fieldLink_RX5_10_NestedCodes_state_LNestedCodes_State_) (fun _ h9 => h9) rfl dX5_sentSymbol_5 ?_
  refine va_getN (D := D) (ci := 4) (v := .int (nI (σ 8))) (C := RX4) (T := TX4) (N := 7) hx hb hts qX5_sentSymbol_inX4 hown hK hP 1 rfl rfl 6 (by decide) (kN_X5_122 hN) (fun _ h9 => h9) rfl dX5_sentSymbol_8 ?_
  refine zc_r (va_runVN (C := RX2) (As := [.int (nI (σ 8))]) (rest := []) ⟨hx, hb, hml, hown, hts⟩ (c_X2_codeword l D Y A B σ hn h wd dd r0 r1 r2 r3 r4 rl rp rb wt wn (σ 8) (by omega)) ⟨(va_cnB 1 hts gX5_sentSymbol_X2_codeword_n114 rfl rfl rfl (kM_X5_114 hN) (hts _ qX5_sentSymbol_Cond_initialized_RX2) (by decide +kernel) (by rw [hR]; exact ⟨Nat.le_of_ble_eq_true rfl, Nat.le_of_ble_eq_true rfl⟩)), (hts _ qX5_sentSymbol_Cond_instanceMethod_yX2_codeword), (hts _ qX5_sentSymbol_Cond_selects_RX2_yX2_codeword_yX2_codeword)⟩ ⟨zB_blind, va_recv hK hP (ci := 2) (q0 := 9) rfl rfl, zp_r hP hK hN⟩ rfl rfl hl.1 rfl (lv_room (Nat.le_of_ble_eq_true rfl)) dX5_sentSymbol_11 ⟨Nat.zero_le _, Nat.zero_le _⟩).run ?_
  refine lv_iload_n hx hb dX5_sentSymbol_14 rfl (lv_at hl 1 rfl) ?_
  refine zc_r (va_runS (As := [.long (lN (zcwP (σ 8))), .int (nI j)]) (rest := []) ⟨hx, hb, hml, hown, hts⟩ (c_X5_symbolIn l D Y  (zcwP (σ 8)) j (Nat.lt_trans (zcwP_lt h8) (by decide)) (by omega)) (va_cwS 2 hts gX5_sentSymbol_X5_symbolIn rfl rfl rfl (by decide +kernel) (by rw [hR]; exact ⟨Nat.le_of_ble_eq_true rfl, Nat.le_of_ble_eq_true rfl⟩)) ⟨zB_blind, (zp_r (v := [.long (lN (zcwP (σ 8))), .int (nI j)]) (fun k q h => absurd h (by simp)) hK hN)⟩ rfl rfl hl.1 rfl (lv_room (Nat.le_of_ble_eq_true rfl)) dX5_sentSymbol_15 ⟨Nat.zero_le _, Nat.zero_le _⟩).run ?_
  exact zr_i hx hb hr hlk hQ dX5_sentSymbol_18 (by rw [zcwP_ok h8, pak_at (fun j hj => zcw_lt h8 hj) hj])
theorem qX5_wordSentFor_Cond_fieldLink_RX5_26_NestedCodes_inner_LNestedCodes_InnerCode_ : Cond.fieldLink RX5 26 "NestedCodes" "inner" "LNestedCodes$InnerCode;" ∈ wsX5_wordSentFor := by decide +kernel
theorem qX5_wordSentFor_inX5 : ∀ w ∈ wsX50, w ∈ wsX5_wordSentFor := by decide +kernel
theorem qX5_wordSentFor_inX1 : ∀ w ∈ wsX10, w ∈ wsX5_wordSentFor := by decide +kernel
theorem qX5_wordSentFor_Cond_fieldLink_RX5_33_NestedCodes_outer_LNestedCodes_OuterCode_ : Cond.fieldLink RX5 33 "NestedCodes" "outer" "LNestedCodes$OuterCode;" ∈ wsX5_wordSentFor := by decide +kernel
theorem qX5_wordSentFor_Cond_initialized_RX2 : Cond.initialized RX2 ∈ wsX5_wordSentFor := by decide +kernel
theorem qX5_wordSentFor_Cond_instanceMethod_yX2_codeword : Cond.instanceMethod yX2_codeword ∈ wsX5_wordSentFor := by decide +kernel
theorem qX5_wordSentFor_Cond_selects_RX2_yX2_codeword_yX2_codeword : Cond.selects RX2 yX2_codeword yX2_codeword ∈ wsX5_wordSentFor := by decide +kernel
set_option maxHeartbeats 4000000 in
set_option maxRecDepth 100000 in
theorem c_X5_wordSentFor (l : Launch) (D : va_G) (Y : Nat → ClassId) (A : Nat → Nat) (B : Nat → Nat) (σ : Nat → Nat) (hn : Nat) (h : Nat → Nat → Nat) (wd : Nat → Nat) (dd : Nat) (r0 : Nat → Nat) (r1 : Nat → Nat) (r2 : Nat → Nat) (r3 : Nat → Nat) (r4 : Nat → Nat) (rl : Nat) (rp : Nat) (rb : Nat) (wt : Nat → Nat) (wn : Nat) (m9 : Nat) (j : Nat)  (hm : m9 < 4096) (hj : j < 12) : Met l yX5_wordSentFor wsX5_wordSentFor ({ frames := 1, cells := 0, slots := 0, locals := 22 } : Room) (va_Pc [.ref (A 0), .int (nI m9), .int (nI j)] (zB D Y (CX Y A B σ hn h wd dd r0 r1 r2 r3 r4 rl rp rb wt wn))) (zR (.int (nI (wd (zcw m9 j))))) 0 0 (fun _ => False) := by
  refine zr_of (cc := cX5_wordSentFor) (maxL := 3) (ret := (some .int)) (by decide) rfl (Nat.le_of_ble_eq_true rfl) ?_
  intro p e s m below meth c R args Q hR hx hb hml hr hlk hown hts hK hN hP hQ ls hl
  have hown : s.vm.findClass RX5 = some m.cls := hown
  have hl : lv_has ls 3 [(0, .ref (A 0)), (1, .int (nI m9)), (2, .int (nI j))] := hl
  refine lv_aload_n hx hb dX5_wordSentFor_0 rfl (lv_at hl 0 rfl) ?_
  refine va_get (D := D) (ci := 5) (v := .ref (A 7)) (C := RX5) (T := TX5) (N := 7) hx hb hts qX5_wordSentFor_inX5 hown hK hP 0 rfl rfl 2 (by decide) (hts _ qX5_wordSentFor_Cond_fieldLink_RX5_26_NestedCodes_inner_LNestedCodes_InnerCode_) (fun _ h9 => h9) rfl dX5_wordSentFor_1 ?_
  refine va_getN (D := D) (ci := 1) (v := .ref (A 8)) (C := RX1) (T := TX1) (N := 2) hx hb hts qX5_wordSentFor_inX1 hown hK hP 7 rfl rfl 0 (by decide) (kN_X5_101 hN) (fun _ h9 => h9) rfl dX5_wordSentFor_4 ?_
  refine lv_aload_n hx hb dX5_wordSentFor_7 rfl (lv_at hl 0 rfl) ?_
  refine va_get (D := D) (ci := 5) (v := .ref (A 9)) (C := RX5) (T := TX5) (N := 7) hx hb hts qX5_wordSentFor_inX5 hown hK hP 0 rfl rfl 3 (by decide) (hts _ qX5_wordSentFor_Cond_fieldLink_RX5_33_NestedCodes_outer_LNestedCodes_OuterCode_) (fun _ h9 => h9) rfl dX5_wordSentFor_8 ?_
  refine lv_iload_n hx hb dX5_wordSentFor_11 rfl (lv_at hl 1 rfl) ?_
  refine zc_r (va_runVN (C := RX2) (As := [.int (nI m9)]) (rest := [.ref (A 8)]) ⟨hx, hb, hml, hown, hts⟩ (c_X2_codeword l D Y A B σ hn h wd dd r0 r1 r2 r3 r4 rl rp rb wt wn m9 (by omega)) ⟨(va_cnB 1 hts gX5_wordSentFor_X2_codeword_n114 rfl rfl rfl (kM_X5_114 hN) (hts _ qX5_wordSentFor_Cond_initialized_RX2) (by decide +kernel) (by rw [hR]; exact ⟨Nat.le_of_ble_eq_true rfl, Nat.le_of_ble_eq_true rfl⟩)), (hts _ qX5_wordSentFor_Cond_instanceMethod_yX2_codeword), (hts _ qX5_wordSentFor_Cond_selects_RX2_yX2_codeword_yX2_codeword)⟩ ⟨zB_blind, va_recv hK hP (ci := 2) (q0 := 9) rfl rfl, zp_r hP hK hN⟩ rfl rfl hl.1 rfl (lv_room (Nat.le_of_ble_eq_true rfl)) dX5_wordSentFor_12 ⟨Nat.zero_le _, Nat.zero_le _⟩).run ?_
  refine lv_iload_n hx hb dX5_wordSentFor_15 rfl (lv_at hl 2 rfl) ?_
  refine zc_r (va_runS (As := [.long (lN (zcwP m9)), .int (nI j)]) (rest := [.ref (A 8)]) ⟨hx, hb, hml, hown, hts⟩ (c_X5_symbolIn l D Y  (zcwP m9) j (Nat.lt_trans (zcwP_lt hm) (by decide)) (by omega)) (va_cwS 2 hts gX5_wordSentFor_X5_symbolIn rfl rfl rfl (by decide +kernel) (by rw [hR]; exact ⟨Nat.le_of_ble_eq_true rfl, Nat.le_of_ble_eq_true rfl⟩)) ⟨zB_blind, (zp_r (v := [.long (lN (zcwP m9)), .int (nI j)]) (fun k q h => absurd h (by simp)) hK hN)⟩ rfl rfl hl.1 rfl (lv_room (Nat.le_of_ble_eq_true rfl)) dX5_wordSentFor_16 ⟨Nat.zero_le _, Nat.zero_le _⟩).run ?_
  refine zt_i (v := (nI (zcw m9 j))) (by rw [zcwP_ok hm, pak_at (fun j hj => zcw_lt hm hj) hj]) ?_
  refine za_i hx hb hK hP 8 (f := fun k9 => nI (wd k9)) (v := (nI (wd (zcw m9 j)))) rfl (zcw_lt hm hj) (by decide) dX5_wordSentFor_19 (rfl) ?_
  exact zr_i hx hb hr hlk hQ dX5_wordSentFor_20 (rfl)
theorem qX5_lostBlocks_Cond_fieldLink_RX5_10_NestedCodes_state_LNestedCodes_State_ : Cond.fieldLink RX5 10 "NestedCodes" "state" "LNestedCodes$State;" ∈ wsX5_lostBlocks := by decide +kernel
theorem qX5_lostBlocks_inX5 : ∀ w ∈ wsX50, w ∈ wsX5_lostBlocks := by decide +kernel
theorem qX5_lostBlocks_inX4 : ∀ w ∈ wsX40, w ∈ wsX5_lostBlocks := by decide +kernel
set_option maxHeartbeats 4000000 in
set_option maxRecDepth 100000 in
theorem c_X5_lostBlocks (l : Launch) (D : va_G) (Y : Nat → ClassId) (A : Nat → Nat) (B : Nat → Nat) (σ : Nat → Nat) (hn : Nat) (h : Nat → Nat → Nat) (wd : Nat → Nat) (dd : Nat) (r0 : Nat → Nat) (r1 : Nat → Nat) (r2 : Nat → Nat) (r3 : Nat → Nat) (r4 : Nat → Nat) (rl : Nat) (rp : Nat) (rb : Nat) (wt : Nat → Nat) (wn : Nat)   (k12 : σ 0 ≤ 12) : Met l yX5_lostBlocks wsX5_lostBlocks ({ frames := 0, cells := 0, slots := 0, locals := 0 } : Room) (va_Pc [.ref (A 0)] (zB D Y (CX Y A B σ hn h wd dd r0 r1 r2 r3 r4 rl rp rb wt wn))) (zR (.int (nI (lostN σ (σ 0))))) 0 0 (fun _ => False) := by
  refine zr_of (cc := cX5_lostBlocks) (maxL := 3) (ret := (some .int)) (by decide) rfl (Nat.le_of_ble_eq_true rfl) ?_
  intro p e s m below meth c R args Q hR hx hb hml hr hlk hown hts hK hN hP hQ ls hl
  have hown : s.vm.findClass RX5 = some m.cls := hown
  have hl : lv_has ls 3 [(0, .ref (A 0))] := hl
  refine lv_iconst (v := (nI 0)) hx hb dX5_lostBlocks_0 (by decide) ?_
  refine lv_istore_n (lv' := [(1, .int (nI 0)), (0, .ref (A 0))]) hx hb dX5_lostBlocks_1 rfl hl (by decide) rfl (fun ls hl => ?_)
  refine lv_iconst (v := (nI 0)) hx hb dX5_lostBlocks_2 (by decide) ?_
  refine lv_istore_n (lv' := [(2, .int (nI 0)), (1, .int (nI 0)), (0, .ref (A 0))]) hx hb dX5_lostBlocks_3 rfl hl (by decide) rfl (fun ls hl => ?_)
  have L4 : ∀ (n9 : Nat) (i : Nat) (hi : i ≤ σ 0), σ 0 - i < n9 → ∀ ls : Array Slot, lv_has ls 3 [(2, .int (nI i)), (1, .int (nI (lostN σ i))), (0, .ref (A 0))] → W p l e R s m args below meth c s.heap [] 0 0 Q (F0 m 4 ls []) := by
    intro n9
    induction n9 with
    | zero => intro i hi hn9; exact absurd hn9 (Nat.not_lt_zero _)
    | succ n9 ih9 =>
      have ih4 := ih9
      clear ih9
      intro i hi hn9 ls hl
      have hln := lostN_le σ i
      have hz := zL_01 (σ 7) i
      refine lv_iload_n hx hb dX5_lostBlocks_4 rfl (lv_at hl 0 rfl) ?_
      refine lv_aload_n hx hb dX5_lostBlocks_5 rfl (lv_at hl 2 rfl) ?_
      refine va_get (D := D) (ci := 5) (v := .ref (A 1)) (C := RX5) (T := TX5) (N := 7) hx hb hts qX5_lostBlocks_inX5 hown hK hP 0 rfl rfl 0 (by decide) (hts _ qX5_lostBlocks_Cond_fieldLink_RX5_10_NestedCodes_state_LNestedCodes_State_) (fun _ h9 => h9) rfl dX5_lostBlocks_6 ?_
      refine va_getN (D := D) (ci := 4) (v := .int (nI (σ 0))) (C := RX4) (T := TX4) (N := 7) hx hb hts qX5_lostBlocks_inX4 hown hK hP 1 rfl rfl 0 (by decide) (kN_X5_55 hN) (fun _ h9 => h9) rfl dX5_lostBlocks_9 ?_
      refine zn_icmp_ge (tgt := 36)  hx hb dX5_lostBlocks_12 (by decide) (by omega) (by omega) (fun c12 => ?_) (fun c12 => ?_)
      · obtain rfl : i = σ 0 := by omega
        refine lv_iload_n hx hb dX5_lostBlocks_36 rfl (lv_at hl 1 rfl) ?_
        exact zr_i hx hb hr hlk hQ dX5_lostBlocks_37 (rfl)
      · refine lv_aload_n hx hb dX5_lostBlocks_15 rfl (lv_at hl 2 rfl) ?_
        refine va_get (D := D) (ci := 5) (v := .ref (A 1)) (C := RX5) (T := TX5) (N := 7) hx hb hts qX5_lostBlocks_inX5 hown hK hP 0 rfl rfl 0 (by decide) (hts _ qX5_lostBlocks_Cond_fieldLink_RX5_10_NestedCodes_state_LNestedCodes_State_) (fun _ h9 => h9) rfl dX5_lostBlocks_16 ?_
        refine va_getN (D := D) (ci := 4) (v := .ref (A 4)) (C := RX4) (T := TX4) (N := 7) hx hb hts qX5_lostBlocks_inX4 hown hK hP 1 rfl rfl 5 (by decide) (kN_X5_138 hN) (fun _ h9 => h9) rfl dX5_lostBlocks_19 ?_
        refine lv_iload_n hx hb dX5_lostBlocks_22 rfl (lv_at hl 0 rfl) ?_
        refine za_z hx hb hK hP 4 (f := fun k9 => nI (zL (σ 7) k9)) (v := (nI (zL (σ 7) i))) rfl (by omega) (by decide) dX5_lostBlocks_23 (rfl) ?_
        refine zn_if_eq (tgt := 30)  hx hb dX5_lostBlocks_24 (by decide) (by omega) (fun c24 => ?_) (fun c24 => ?_)
        · refine lv_iinc (v := (nI (i + 1))) (lv' := [(2, .int (nI (i + 1))), (1, .int (nI (lostN σ i))), (0, .ref (A 0))]) hx hb dX5_lostBlocks_30 hl (k := 0) rfl (zinc _) (by decide) rfl (fun ls hl => ?_)
          refine lv_goto (tgt := 4) hx hb dX5_lostBlocks_33 (by decide) ?_
          rw [show (.int (nI (lostN σ i)) : Value) = .int (nI (lostN σ (i + 1))) from congrArg _ (congrArg nI (show _ = lostN σ i + zL (σ 7) i from by omega))] at hl
          exact ih4 (i + 1) (by omega) (by omega) ls (lv_sub hl [0, 1, 2] rfl)
        · refine lv_iinc (v := (nI (lostN σ i + 1))) (lv' := [(1, .int (nI (lostN σ i + 1))), (2, .int (nI i)), (0, .ref (A 0))]) hx hb dX5_lostBlocks_27 hl (k := 1) rfl (zinc _) (by decide) rfl (fun ls hl => ?_)
          refine lv_iinc (v := (nI (i + 1))) (lv' := [(2, .int (nI (i + 1))), (1, .int (nI (lostN σ i + 1))), (0, .ref (A 0))]) hx hb dX5_lostBlocks_30 hl (k := 1) rfl (zinc _) (by decide) rfl (fun ls hl => ?_)
          refine lv_goto (tgt := 4) hx hb dX5_lostBlocks_33 (by decide) ?_
          rw [show (.int (nI (lostN σ i + 1)) : Value) = .int (nI (lostN σ (i + 1))) from congrArg _ (congrArg nI (show _ = lostN σ i + zL (σ 7) i from by omega))] at hl
          exact ih4 (i + 1) (by omega) (by omega) ls (lv_sub hl [0, 1, 2] rfl)
  exact L4 (σ 0 - 0 + 1) 0 (by omega) (Nat.lt_succ_self _) ls (lv_sub hl [0, 1, 2] rfl)
theorem qX5_wrongBits_Cond_fieldLink_RX5_10_NestedCodes_state_LNestedCodes_State_ : Cond.fieldLink RX5 10 "NestedCodes" "state" "LNestedCodes$State;" ∈ wsX5_wrongBits := by decide +kernel
theorem qX5_wrongBits_inX5 : ∀ w ∈ wsX50, w ∈ wsX5_wrongBits := by decide +kernel
theorem qX5_wrongBits_inX4 : ∀ w ∈ wsX40, w ∈ wsX5_wrongBits := by decide +kernel
set_option maxHeartbeats 4000000 in
set_option maxRecDepth 100000 in
theorem c_X5_wrongBits (l : Launch) (D : va_G) (Y : Nat → ClassId) (A : Nat → Nat) (B : Nat → Nat) (σ : Nat → Nat) (hn : Nat) (h : Nat → Nat → Nat) (wd : Nat → Nat) (dd : Nat) (r0 : Nat → Nat) (r1 : Nat → Nat) (r2 : Nat → Nat) (r3 : Nat → Nat) (r4 : Nat → Nat) (rl : Nat) (rp : Nat) (rb : Nat) (wt : Nat → Nat) (wn : Nat)   (kσ : zWF σ) (kwd : ∀ j, j < 16 → wd j < 1024) : Met l yX5_wrongBits wsX5_wrongBits ({ frames := 2, cells := 0, slots := 0, locals := 44 } : Room) (va_Pc [.ref (A 0)] (zB D Y (CX Y A B σ hn h wd dd r0 r1 r2 r3 r4 rl rp rb wt wn))) (zR (.int (nI (wrN wd σ (σ 0))))) 0 0 (fun _ => False) := by
  refine zr_of (cc := cX5_wrongBits) (maxL := 4) (ret := (some .int)) (by decide) rfl (Nat.le_of_ble_eq_true rfl) ?_
  intro p e s m below meth c R args Q hR hx hb hml hr hlk hown hts hK hN hP hQ ls hl
  have hown : s.vm.findClass RX5 = some m.cls := hown
  have hl : lv_has ls 4 [(0, .ref (A 0))] := hl
  have kw := kσ
  obtain ⟨n3, n12, d1, d3, dn, b4, b10, gl, lm, sn, wl, wnz⟩ := kw
  have pb := zp_b b10
  have pk9 := zp_k d3
  refine lv_iconst (v := (nI 0)) hx hb dX5_wrongBits_0 (by decide) ?_
  refine lv_istore_n (lv' := [(1, .int (nI 0)), (0, .ref (A 0))]) hx hb dX5_wrongBits_1 rfl hl (by decide) rfl (fun ls hl => ?_)
  refine lv_iconst (v := (nI 0)) hx hb dX5_wrongBits_2 (by decide) ?_
  refine lv_istore_n (lv' := [(2, .int (nI 0)), (1, .int (nI 0)), (0, .ref (A 0))]) hx hb dX5_wrongBits_3 rfl hl (by decide) rfl (fun ls hl => ?_)
  have L4 : ∀ (n9 : Nat) (i : Nat) (hi : i ≤ σ 0), σ 0 - i < n9 → ∀ ls : Array Slot, lv_has ls 4 [(2, .int (nI i)), (1, .int (nI (wrN wd σ i))), (0, .ref (A 0))] → W p l e R s m args below meth c s.heap [] 0 0 Q (F0 m 4 ls []) := by
    intro n9
    induction n9 with
    | zero => intro i hi hn9; exact absurd hn9 (Nat.not_lt_zero _)
    | succ n9 ih9 =>
      have ih4 := ih9
      clear ih9
      intro i hi hn9 ls hl
      have hln := wrN_le wd σ i
      have hz := zL_01 (σ 7) i
      refine lv_iload_n hx hb dX5_wrongBits_4 rfl (lv_at hl 0 rfl) ?_
      refine lv_aload_n hx hb dX5_wrongBits_5 rfl (lv_at hl 2 rfl) ?_
      refine va_get (D := D) (ci := 5) (v := .ref (A 1)) (C := RX5) (T := TX5) (N := 7) hx hb hts qX5_wrongBits_inX5 hown hK hP 0 rfl rfl 0 (by decide) (hts _ qX5_wrongBits_Cond_fieldLink_RX5_10_NestedCodes_state_LNestedCodes_State_) (fun _ h9 => h9) rfl dX5_wrongBits_6 ?_
      refine va_getN (D := D) (ci := 4) (v := .int (nI (σ 0))) (C := RX4) (T := TX4) (N := 7) hx hb hts qX5_wrongBits_inX4 hown hK hP 1 rfl rfl 0 (by decide) (kN_X5_55 hN) (fun _ h9 => h9) rfl dX5_wrongBits_9 ?_
      refine zn_icmp_ge (tgt := 63)  hx hb dX5_wrongBits_12 (by decide) (by omega) (by omega) (fun c12 => ?_) (fun c12 => ?_)
      · obtain rfl : i = σ 0 := by omega
        refine lv_iload_n hx hb dX5_wrongBits_63 rfl (lv_at hl 1 rfl) ?_
        exact zr_i hx hb hr hlk hQ dX5_wrongBits_64 (rfl)
      · refine lv_aload_n hx hb dX5_wrongBits_15 rfl (lv_at hl 2 rfl) ?_
        refine va_get (D := D) (ci := 5) (v := .ref (A 1)) (C := RX5) (T := TX5) (N := 7) hx hb hts qX5_wrongBits_inX5 hown hK hP 0 rfl rfl 0 (by decide) (hts _ qX5_wrongBits_Cond_fieldLink_RX5_10_NestedCodes_state_LNestedCodes_State_) (fun _ h9 => h9) rfl dX5_wrongBits_16 ?_
        refine va_getN (D := D) (ci := 4) (v := .ref (A 4)) (C := RX4) (T := TX4) (N := 7) hx hb hts qX5_wrongBits_inX4 hown hK hP 1 rfl rfl 5 (by decide) (kN_X5_138 hN) (fun _ h9 => h9) rfl dX5_wrongBits_19 ?_
        refine lv_iload_n hx hb dX5_wrongBits_22 rfl (lv_at hl 0 rfl) ?_
        refine za_z hx hb hK hP 4 (f := fun k9 => nI (zL (σ 7) k9)) (v := (nI (zL (σ 7) i))) rfl (by omega) (by decide) dX5_wrongBits_23 (rfl) ?_
        refine zn_if_ne (tgt := 57)  hx hb dX5_wrongBits_24 (by decide) (by omega) (fun c24 => ?_) (fun c24 => ?_)
        · refine lv_iinc (v := (nI (i + 1))) (lv' := [(2, .int (nI (i + 1))), (1, .int (nI (wrN wd σ i))), (0, .ref (A 0))]) hx hb dX5_wrongBits_57 hl (k := 0) rfl (zinc _) (by decide) rfl (fun ls hl => ?_)
          refine lv_goto (tgt := 4) hx hb dX5_wrongBits_60 (by decide) ?_
          rw [show (.int (nI (wrN wd σ i)) : Value) = .int (nI (wrN wd σ (i + 1))) from congrArg _ (congrArg nI (show _ = wrN wd σ i + (if zL (σ 7) i = 1 then 0 else _) from by first | rw [if_pos (by omega), Nat.add_zero] | rw [if_neg (by omega)]))] at hl
          exact ih4 (i + 1) (by omega) (by omega) ls (lv_sub hl [0, 1, 2] rfl)
        · refine lv_aload_n hx hb dX5_wrongBits_27 rfl (lv_at hl 2 rfl) ?_
          refine lv_aload_n hx hb dX5_wrongBits_28 rfl (lv_at hl 2 rfl) ?_
          refine va_get (D := D) (ci := 5) (v := .ref (A 1)) (C := RX5) (T := TX5) (N := 7) hx hb hts qX5_wrongBits_inX5 hown hK hP 0 rfl rfl 0 (by decide) (hts _ qX5_wrongBits_Cond_fieldLink_RX5_10_NestedCodes_state_LNestedCodes_State_) (fun _ h9 => h9) rfl dX5_wrongBits_29 ?_
          refine va_getN (D := D) (ci := 4) (v := .int (nI (σ 8))) (C := RX4) (T := TX4) (N := 7) hx hb hts qX5_wrongBits_inX4 hown hK hP 1 rfl rfl 6 (by decide) (kN_X5_122 hN) (fun _ h9 => h9) rfl dX5_wrongBits_32 ?_
          refine lv_iload_n hx hb dX5_wrongBits_35 rfl (lv_at hl 0 rfl) ?_
          refine zc_r (va_runV (As := [.int (nI (σ 8)), .int (nI i)]) (rest := []) ⟨hx, hb, hml, hown, hts⟩ (c_X5_wordSentFor l D Y A B σ hn h wd dd r0 r1 r2 r3 r4 rl rp rb wt wn (σ 8) i (by omega) (by omega)) (cwV 2 hts gX5_wrongBits_X5_wordSentFor rfl rfl rfl (by decide +kernel) (by rw [hR]; exact ⟨Nat.le_of_ble_eq_true rfl, Nat.le_of_ble_eq_true rfl⟩)) ⟨zB_blind, va_recv hK hP (ci := 5) (q0 := 0) rfl rfl, zp_r hP hK hN⟩ rfl rfl hl.1 rfl (lv_room (Nat.le_of_ble_eq_true rfl)) dX5_wrongBits_36 ⟨Nat.zero_le _, Nat.zero_le _⟩).run ?_
          refine lv_istore_n (lv' := [(3, .int (nI (wd (zcw (σ 8) i)))), (2, .int (nI i)), (1, .int (nI (wrN wd σ i))), (0, .ref (A 0))]) hx hb dX5_wrongBits_39 rfl hl (by decide) rfl (fun ls hl => ?_)
          refine lv_iload_n hx hb dX5_wrongBits_40 rfl (lv_at hl 2 rfl) ?_
          refine lv_aload_n hx hb dX5_wrongBits_41 rfl (lv_at hl 3 rfl) ?_
          refine va_get (D := D) (ci := 5) (v := .ref (A 1)) (C := RX5) (T := TX5) (N := 7) hx hb hts qX5_wrongBits_inX5 hown hK hP 0 rfl rfl 0 (by decide) (hts _ qX5_wrongBits_Cond_fieldLink_RX5_10_NestedCodes_state_LNestedCodes_State_) (fun _ h9 => h9) rfl dX5_wrongBits_42 ?_
          refine va_getN (D := D) (ci := 4) (v := .ref (A 3)) (C := RX4) (T := TX4) (N := 7) hx hb hts qX5_wrongBits_inX4 hown hK hP 1 rfl rfl 4 (by decide) (kN_X5_128 hN) (fun _ h9 => h9) rfl dX5_wrongBits_45 ?_
          refine lv_iload_n hx hb dX5_wrongBits_48 rfl (lv_at hl 1 rfl) ?_
          refine za_i hx hb hK hP 3 (f := fun k9 => nI (σ (9 + k9))) (v := (nI (σ (9 + i)))) rfl (by omega) (by decide) dX5_wrongBits_49 (rfl) ?_
          refine lv_iload_n hx hb dX5_wrongBits_50 rfl (lv_at hl 0 rfl) ?_
          refine zv_ixor hx hb (v := (nI ((σ (9 + i)) ^^^ (wd (zcw (σ 8) i))))) dX5_wrongBits_51 (nx_xor _ _) ?_
          refine zc_r (va_runS (As := [.int (nI ((σ (9 + i)) ^^^ (wd (zcw (σ 8) i))))]) (rest := [.int (nI (wrN wd σ i))]) ⟨hx, hb, hml, hown, hts⟩ (c_J6_bitCount_0f7a4 l D Y  ((σ (9 + i)) ^^^ (wd (zcw (σ 8) i))) (Nat.lt_trans (xor_1024 (zw_1024 kσ (by omega)) (kwd _ (zcw_lt (by omega) (by omega)))) (by decide))) (va_cwS 1 hts gX5_wrongBits_J6_bitCount_0f7a4 rfl rfl rfl (by decide +kernel) (by rw [hR]; exact ⟨Nat.le_of_ble_eq_true rfl, Nat.le_of_ble_eq_true rfl⟩)) ⟨zB_blind, (zp_r (v := [.int (nI ((σ (9 + i)) ^^^ (wd (zcw (σ 8) i))))]) (fun k q h => absurd h (by simp)) hK hN)⟩ rfl rfl hl.1 rfl (lv_room (Nat.le_of_ble_eq_true rfl)) dX5_wrongBits_52 ⟨Nat.zero_le _, Nat.zero_le _⟩).run ?_
          have hp52 := popc_le ((σ (9 + i)) ^^^ (wd (zcw (σ 8) i)))
          refine zv_iadd hx hb (v := (nI ((wrN wd σ i) + (popc ((σ (9 + i)) ^^^ (wd (zcw (σ 8) i))))))) dX5_wrongBits_55 (nI_add _ _) ?_
          refine lv_istore_n (lv' := [(1, .int (nI ((wrN wd σ i) + (popc ((σ (9 + i)) ^^^ (wd (zcw (σ 8) i))))))), (3, .int (nI (wd (zcw (σ 8) i)))), (2, .int (nI i)), (0, .ref (A 0))]) hx hb dX5_wrongBits_56 rfl hl (by decide) rfl (fun ls hl => ?_)
          refine lv_iinc (v := (nI (i + 1))) (lv' := [(2, .int (nI (i + 1))), (1, .int (nI ((wrN wd σ i) + (popc ((σ (9 + i)) ^^^ (wd (zcw (σ 8) i))))))), (3, .int (nI (wd (zcw (σ 8) i)))), (0, .ref (A 0))]) hx hb dX5_wrongBits_57 hl (k := 2) rfl (zinc _) (by decide) rfl (fun ls hl => ?_)
          refine lv_goto (tgt := 4) hx hb dX5_wrongBits_60 (by decide) ?_
          rw [show (.int (nI ((wrN wd σ i) + (popc ((σ (9 + i)) ^^^ (wd (zcw (σ 8) i)))))) : Value) = .int (nI (wrN wd σ (i + 1))) from congrArg _ (congrArg nI (show _ = wrN wd σ i + (if zL (σ 7) i = 1 then 0 else _) from by first | rw [if_pos (by omega), Nat.add_zero] | rw [if_neg (by omega)]))] at hl
          exact ih4 (i + 1) (by omega) (by omega) ls (lv_sub hl [0, 1, 3] rfl)
  exact L4 (σ 0 - 0 + 1) 0 (by omega) (Nat.lt_succ_self _) ls (lv_sub hl [0, 1, 2] rfl)
theorem qX5_burstMask_Cond_fieldLink_RX5_10_NestedCodes_state_LNestedCodes_State_ : Cond.fieldLink RX5 10 "NestedCodes" "state" "LNestedCodes$State;" ∈ wsX5_burstMask := by decide +kernel
theorem qX5_burstMask_inX5 : ∀ w ∈ wsX50, w ∈ wsX5_burstMask := by decide +kernel
theorem qX5_burstMask_inX4 : ∀ w ∈ wsX40, w ∈ wsX5_burstMask := by decide +kernel
theorem qX5_burstMask_Cond_methodLink_RX5_211_Lib_Math_max_name : Cond.methodLink RX5 211 Lib.Math.max.name ∈ wsX5_burstMask := by decide +kernel
theorem qX5_burstMask_Cond_static_Lib_Math_max_name : Cond.static Lib.Math.max.name ∈ wsX5_burstMask := by decide +kernel
theorem qX5_burstMask_Cond_initialized_java_lang_Math_ : Cond.initialized "java/lang/Math" ∈ wsX5_burstMask := by decide +kernel
theorem qX5_burstMask_Cond_code_Lib_Math_max_name_Lib_Math_max_code_2_some_int_ : Cond.code Lib.Math.max.name Lib.Math.max.code 2 (some .int) ∈ wsX5_burstMask := by decide +kernel
theorem qX5_burstMask_Cond_methodLink_RX5_216_Lib_Math_min_name : Cond.methodLink RX5 216 Lib.Math.min.name ∈ wsX5_burstMask := by decide +kernel
theorem qX5_burstMask_Cond_static_Lib_Math_min_name : Cond.static Lib.Math.min.name ∈ wsX5_burstMask := by decide +kernel
theorem qX5_burstMask_Cond_code_Lib_Math_min_name_Lib_Math_min_code_2_some_int_ : Cond.code Lib.Math.min.name Lib.Math.min.code 2 (some .int) ∈ wsX5_burstMask := by decide +kernel
set_option maxHeartbeats 4000000 in
set_option maxRecDepth 100000 in
theorem c_X5_burstMask (l : Launch) (D : va_G) (Y : Nat → ClassId) (A : Nat → Nat) (B : Nat → Nat) (σ : Nat → Nat) (hn : Nat) (h : Nat → Nat → Nat) (wd : Nat → Nat) (dd : Nat) (r0 : Nat → Nat) (r1 : Nat → Nat) (r2 : Nat → Nat) (r3 : Nat → Nat) (r4 : Nat → Nat) (rl : Nat) (rp : Nat) (rb : Nat) (wt : Nat → Nat) (wn : Nat) (j : Nat) (st : Nat) (en : Nat)  (kσ : zWF σ) (hj : j < 12) (hst : st ≤ 120) (hen : en ≤ 120) : Met l yX5_burstMask wsX5_burstMask ({ frames := 1, cells := 0, slots := 0, locals := 21 } : Room) (va_Pc [.ref (A 0), .int (nI j), .int (nI st), .int (nI en)] (zB D Y (CX Y A B σ hn h wd dd r0 r1 r2 r3 r4 rl rp rb wt wn))) (zR (.int (nI (bmask (σ 2) j st en)))) 0 0 (fun _ => False) := by
  refine zr_of (cc := cX5_burstMask) (maxL := 7) (ret := (some .int)) (by decide) rfl (Nat.le_of_ble_eq_true rfl) ?_
  intro p e s m below meth c R args Q hR hx hb hml hr hlk hown hts hK hN hP hQ ls hl
  have hown : s.vm.findClass RX5 = some m.cls := hown
  have hl : lv_has ls 7 [(0, .ref (A 0)), (1, .int (nI j)), (2, .int (nI st)), (3, .int (nI en))] := hl
  have kw := kσ
  obtain ⟨n3, n12, d1, d3, dn, b4, b10, gl, lm, sn, wl, wnz⟩ := kw
  have pb := zp_b b10
  have pk9 := zp_k d3
  refine lv_aload_n hx hb dX5_burstMask_0 rfl (lv_at hl 0 rfl) ?_
  refine va_get (D := D) (ci := 5) (v := .ref (A 1)) (C := RX5) (T := TX5) (N := 7) hx hb hts qX5_burstMask_inX5 hown hK hP 0 rfl rfl 0 (by decide) (hts _ qX5_burstMask_Cond_fieldLink_RX5_10_NestedCodes_state_LNestedCodes_State_) (fun _ h9 => h9) rfl dX5_burstMask_1 ?_
  refine va_getN (D := D) (ci := 4) (v := .int (nI (σ 2))) (C := RX4) (T := TX4) (N := 7) hx hb hts qX5_burstMask_inX4 hown hK hP 1 rfl rfl 2 (by decide) (kN_X5_72 hN) (fun _ h9 => h9) rfl dX5_burstMask_4 ?_
  refine lv_iload_n hx hb dX5_burstMask_7 rfl (lv_at hl 1 rfl) ?_
  refine zv_imul hx hb (v := (nI ((σ 2) * j))) dX5_burstMask_8 (pk_mul _ _) ?_
  have hof : σ 2 * j ≤ 10 * 12 := Nat.mul_le_mul b10 (by omega)
  refine lv_istore (lv' := [(4, .int (nI ((σ 2) * j))), (0, .ref (A 0)), (1, .int (nI j)), (2, .int (nI st)), (3, .int (nI en))]) hx hb dX5_burstMask_9 hl (by decide) rfl (fun ls hl => ?_)
  refine lv_iload_n hx hb dX5_burstMask_11 rfl (lv_at hl 3 rfl) ?_
  refine lv_iload hx hb dX5_burstMask_12 (lv_at hl 0 rfl) ?_
  refine zv_isub hx hb (v := (nI st - nI (σ 2 * j))) dX5_burstMask_14 (rfl) ?_
  refine lv_iconst (v := (nI 0)) hx hb dX5_burstMask_15 (by decide) ?_
  refine va_mmax hx hb (hml.trans hl.1.symm) hown (hts _ qX5_burstMask_Cond_methodLink_RX5_211_Lib_Math_max_name) (hts _ qX5_burstMask_Cond_static_Lib_Math_max_name) (hts _ qX5_burstMask_Cond_initialized_java_lang_Math_) (hts _ qX5_burstMask_Cond_code_Lib_Math_max_name_Lib_Math_max_code_2_some_int_) (by rw [hR]; exact Nat.le_of_ble_eq_true rfl) (by rw [hR]; exact Nat.le_of_ble_eq_true rfl) (Nat.zero_le _) (Nat.zero_le _) dX5_burstMask_16 ?_
  refine zt_i (v := (nI (st - (σ 2 * j)))) (zmax0 (by omega) (by omega)) ?_
  refine lv_istore (lv' := [(5, .int (nI (st - (σ 2 * j)))), (4, .int (nI ((σ 2) * j))), (0, .ref (A 0)), (1, .int (nI j)), (2, .int (nI st)), (3, .int (nI en))]) hx hb dX5_burstMask_19 hl (by decide) rfl (fun ls hl => ?_)
  refine lv_iload_n hx hb dX5_burstMask_21 rfl (lv_at hl 5 rfl) ?_
  refine lv_iload hx hb dX5_burstMask_22 (lv_at hl 1 rfl) ?_
  refine zv_isub hx hb (v := (zI (((en : Nat) : Int) - (((σ 2 * j) : Nat) : Int)))) dX5_burstMask_24 (by rw [zI_nat, zI_nat]; exact zI_sub _ _) ?_
  refine lv_aload_n hx hb dX5_burstMask_25 rfl (lv_at hl 2 rfl) ?_
  refine va_get (D := D) (ci := 5) (v := .ref (A 1)) (C := RX5) (T := TX5) (N := 7) hx hb hts qX5_burstMask_inX5 hown hK hP 0 rfl rfl 0 (by decide) (hts _ qX5_burstMask_Cond_fieldLink_RX5_10_NestedCodes_state_LNestedCodes_State_) (fun _ h9 => h9) rfl dX5_burstMask_26 ?_
  refine va_getN (D := D) (ci := 4) (v := .int (nI (σ 2))) (C := RX4) (T := TX4) (N := 7) hx hb hts qX5_burstMask_inX4 hown hK hP 1 rfl rfl 2 (by decide) (kN_X5_72 hN) (fun _ h9 => h9) rfl dX5_burstMask_29 ?_
  refine va_mmin hx hb (hml.trans hl.1.symm) hown (hts _ qX5_burstMask_Cond_methodLink_RX5_216_Lib_Math_min_name) (hts _ qX5_burstMask_Cond_static_Lib_Math_min_name) (hts _ qX5_burstMask_Cond_initialized_java_lang_Math_) (hts _ qX5_burstMask_Cond_code_Lib_Math_min_name_Lib_Math_min_code_2_some_int_) (by rw [hR]; exact Nat.le_of_ble_eq_true rfl) (by rw [hR]; exact Nat.le_of_ble_eq_true rfl) (Nat.zero_le _) (Nat.zero_le _) dX5_burstMask_32 ?_
  refine zt_i (v := (zI (min (((en : Nat) : Int) - (((σ 2 * j) : Nat) : Int)) ((σ 2 : Nat) : Int)))) (zminI (by omega) (by omega) (by omega)) ?_
  refine lv_istore (lv' := [(6, .int (zI (min (((en : Nat) : Int) - (((σ 2 * j) : Nat) : Int)) ((σ 2 : Nat) : Int)))), (5, .int (nI (st - (σ 2 * j)))), (4, .int (nI ((σ 2) * j))), (0, .ref (A 0)), (1, .int (nI j)), (2, .int (nI st)), (3, .int (nI en))]) hx hb dX5_burstMask_35 hl (by decide) rfl (fun ls hl => ?_)
  refine lv_iload hx hb dX5_burstMask_37 (lv_at hl 1 rfl) ?_
  refine lv_iload hx hb dX5_burstMask_39 (lv_at hl 0 rfl) ?_
  refine zz_icmp_ge (tgt := 56) (a := (((st - (σ 2 * j) : Nat)) : Int)) (b := min (((en : Nat) : Int) - (((σ 2 * j) : Nat) : Int)) ((σ 2 : Nat) : Int)) hx hb dX5_burstMask_41 (by decide) (zt_n (by omega)) (zI_toInt (by omega) (by omega)) (fun c41 => ?_) (fun c41 => ?_)
  · refine lv_iconst (v := (nI 0)) hx hb dX5_burstMask_56 (by decide) ?_
    exact zr_i hx hb hr hlk hQ dX5_burstMask_57 (congrArg nI (show _ = (if _ then _ else _) from by first | rw [if_pos (by omega)] | rw [if_neg (by omega)]))
  · have hpo := Nat.pow_le_pow_right (n := 2) (by decide) (show min (en - σ 2 * j) (σ 2) ≤ 10 by omega)
    have hpo2 := Nat.pow_le_pow_right (n := 2) (by decide) (show st - σ 2 * j ≤ min (en - σ 2 * j) (σ 2) by omega)
    refine lv_iconst (v := (nI 1)) hx hb dX5_burstMask_44 (by decide) ?_
    refine lv_iload hx hb dX5_burstMask_45 (lv_at hl 0 rfl) ?_
    refine zt_i (v := (nI (min (en - (σ 2 * j)) (σ 2)))) (zI_of (by omega)) ?_
    refine zv_ishl hx hb (v := (nI (2 ^ (min (en - (σ 2 * j)) (σ 2))))) dX5_burstMask_47 (by rw [zShl (by omega) (by omega), Nat.one_mul]) ?_
    refine lv_iconst (v := (nI 1)) hx hb dX5_burstMask_48 (by decide) ?_
    refine lv_iload hx hb dX5_burstMask_49 (lv_at hl 1 rfl) ?_
    refine zv_ishl hx hb (v := (nI (2 ^ (st - (σ 2 * j))))) dX5_burstMask_51 (by rw [zShl (by omega) (by omega), Nat.one_mul]) ?_
    refine zv_isub hx hb (v := (nI ((2 ^ (min (en - (σ 2 * j)) (σ 2))) - (2 ^ (st - (σ 2 * j)))))) dX5_burstMask_52 (pk_sub (by omega)) ?_
    refine lv_goto (tgt := 57) hx hb dX5_burstMask_53 (by decide) ?_
    exact zr_i hx hb hr hlk hQ dX5_burstMask_57 (congrArg nI (show _ = (if _ then _ else _) from by first | rw [if_pos (by omega)] | rw [if_neg (by omega)]))
theorem qX5_lawBound_Cond_fieldLink_RX5_26_NestedCodes_inner_LNestedCodes_InnerCode_ : Cond.fieldLink RX5 26 "NestedCodes" "inner" "LNestedCodes$InnerCode;" ∈ wsX5_lawBound := by decide +kernel
theorem qX5_lawBound_inX5 : ∀ w ∈ wsX50, w ∈ wsX5_lawBound := by decide +kernel
theorem qX5_lawBound_inX1 : ∀ w ∈ wsX10, w ∈ wsX5_lawBound := by decide +kernel
theorem qX5_lawBound_Cond_fieldLink_RX5_10_NestedCodes_state_LNestedCodes_State_ : Cond.fieldLink RX5 10 "NestedCodes" "state" "LNestedCodes$State;" ∈ wsX5_lawBound := by decide +kernel
theorem qX5_lawBound_inX4 : ∀ w ∈ wsX40, w ∈ wsX5_lawBound := by decide +kernel
theorem qX5_lawBound_Cond_initialized_RX4 : Cond.initialized RX4 ∈ wsX5_lawBound := by decide +kernel
theorem qX5_lawBound_Cond_instanceMethod_yX4_outerDistance : Cond.instanceMethod yX4_outerDistance ∈ wsX5_lawBound := by decide +kernel
theorem qX5_lawBound_Cond_selects_RX4_yX4_outerDistance_yX4_outerDistance : Cond.selects RX4 yX4_outerDistance yX4_outerDistance ∈ wsX5_lawBound := by decide +kernel
set_option maxHeartbeats 4000000 in
set_option maxRecDepth 100000 in
theorem c_X5_lawBound (l : Launch) (D : va_G) (Y : Nat → ClassId) (A : Nat → Nat) (B : Nat → Nat) (σ : Nat → Nat) (hn : Nat) (h : Nat → Nat → Nat) (wd : Nat → Nat) (dd : Nat) (r0 : Nat → Nat) (r1 : Nat → Nat) (r2 : Nat → Nat) (r3 : Nat → Nat) (r4 : Nat → Nat) (rl : Nat) (rp : Nat) (rb : Nat) (wt : Nat → Nat) (wn : Nat)   (kσ : zWF σ) (kdd : dd ≤ 12) : Met l yX5_lawBound wsX5_lawBound ({ frames := 1, cells := 0, slots := 0, locals := 20 } : Room) (va_Pc [.ref (A 0)] (zB D Y (CX Y A B σ hn h wd dd r0 r1 r2 r3 r4 rl rp rb wt wn))) (zR (.int (nI (dd * (σ 0 - (σ 0 - σ 1 + 1)))))) 0 0 (fun _ => False) := by
  refine zr_of (cc := cX5_lawBound) (maxL := 1) (ret := (some .int)) (by decide) rfl (Nat.le_of_ble_eq_true rfl) ?_
  intro p e s m below meth c R args Q hR hx hb hml hr hlk hown hts hK hN hP hQ ls hl
  have hown : s.vm.findClass RX5 = some m.cls := hown
  have hl : lv_has ls 1 [(0, .ref (A 0))] := hl
  have kw := kσ
  obtain ⟨n3, n12, d1, d3, dn, b4, b10, gl, lm, sn, wl, wnz⟩ := kw
  have pb := zp_b b10
  have pk9 := zp_k d3
  refine lv_aload_n hx hb dX5_lawBound_0 rfl (lv_at hl 0 rfl) ?_
  refine va_get (D := D) (ci := 5) (v := .ref (A 7)) (C := RX5) (T := TX5) (N := 7) hx hb hts qX5_lawBound_inX5 hown hK hP 0 rfl rfl 2 (by decide) (hts _ qX5_lawBound_Cond_fieldLink_RX5_26_NestedCodes_inner_LNestedCodes_InnerCode_) (fun _ h9 => h9) rfl dX5_lawBound_1 ?_
  refine va_getN (D := D) (ci := 1) (v := .int (nI dd)) (C := RX1) (T := TX1) (N := 2) hx hb hts qX5_lawBound_inX1 hown hK hP 7 rfl rfl 1 (by decide) (kN_X5_78 hN) (fun _ h9 => h9) rfl dX5_lawBound_4 ?_
  refine lv_aload_n hx hb dX5_lawBound_7 rfl (lv_at hl 0 rfl) ?_
  refine va_get (D := D) (ci := 5) (v := .ref (A 1)) (C := RX5) (T := TX5) (N := 7) hx hb hts qX5_lawBound_inX5 hown hK hP 0 rfl rfl 0 (by decide) (hts _ qX5_lawBound_Cond_fieldLink_RX5_10_NestedCodes_state_LNestedCodes_State_) (fun _ h9 => h9) rfl dX5_lawBound_8 ?_
  refine va_getN (D := D) (ci := 4) (v := .int (nI (σ 0))) (C := RX4) (T := TX4) (N := 7) hx hb hts qX5_lawBound_inX4 hown hK hP 1 rfl rfl 0 (by decide) (kN_X5_55 hN) (fun _ h9 => h9) rfl dX5_lawBound_11 ?_
  refine lv_aload_n hx hb dX5_lawBound_14 rfl (lv_at hl 0 rfl) ?_
  refine va_get (D := D) (ci := 5) (v := .ref (A 1)) (C := RX5) (T := TX5) (N := 7) hx hb hts qX5_lawBound_inX5 hown hK hP 0 rfl rfl 0 (by decide) (hts _ qX5_lawBound_Cond_fieldLink_RX5_10_NestedCodes_state_LNestedCodes_State_) (fun _ h9 => h9) rfl dX5_lawBound_15 ?_
  refine zc_r (va_runVN (C := RX4) (As := []) (rest := [.int (nI (σ 0)), .int (nI dd)]) ⟨hx, hb, hml, hown, hts⟩ (c_X4_outerDistance l D Y A B σ hn h wd dd r0 r1 r2 r3 r4 rl rp rb wt wn  kσ) ⟨(va_cnB 0 hts gX5_lawBound_X4_outerDistance_n87 rfl rfl rfl (kM_X5_87 hN) (hts _ qX5_lawBound_Cond_initialized_RX4) (by decide +kernel) (by rw [hR]; exact ⟨Nat.le_of_ble_eq_true rfl, Nat.le_of_ble_eq_true rfl⟩)), (hts _ qX5_lawBound_Cond_instanceMethod_yX4_outerDistance), (hts _ qX5_lawBound_Cond_selects_RX4_yX4_outerDistance_yX4_outerDistance)⟩ ⟨zB_blind, va_recv hK hP (ci := 4) (q0 := 1) rfl rfl, zp_r hP hK hN⟩ rfl rfl hl.1 rfl (lv_room (Nat.le_of_ble_eq_true rfl)) dX5_lawBound_18 ⟨Nat.zero_le _, Nat.zero_le _⟩).run ?_
  refine zv_isub hx hb (v := (nI ((σ 0) - (σ 0 - σ 1 + 1)))) dX5_lawBound_21 (pk_sub (by omega)) ?_
  refine zv_imul hx hb (v := (nI (dd * ((σ 0) - (σ 0 - σ 1 + 1))))) dX5_lawBound_22 (pk_mul _ _) ?_
  exact zr_i hx hb hr hlk hQ dX5_lawBound_23 (rfl)
theorem qX5_isResult_Cond_fieldLink_RX5_40_NestedCodes_reading_LNestedCodes_Reading_ : Cond.fieldLink RX5 40 "NestedCodes" "reading" "LNestedCodes$Reading;" ∈ wsX5_isResult := by decide +kernel
theorem qX5_isResult_inX5 : ∀ w ∈ wsX50, w ∈ wsX5_isResult := by decide +kernel
theorem qX5_isResult_Cond_initialized_RX3 : Cond.initialized RX3 ∈ wsX5_isResult := by decide +kernel
theorem qX5_isResult_Cond_instanceMethod_yX3_differingBlocks : Cond.instanceMethod yX3_differingBlocks ∈ wsX5_isResult := by decide +kernel
theorem qX5_isResult_Cond_selects_RX3_yX3_differingBlocks_yX3_differingBlocks : Cond.selects RX3 yX3_differingBlocks yX3_differingBlocks ∈ wsX5_isResult := by decide +kernel
theorem qX5_isResult_Cond_fieldLink_RX5_10_NestedCodes_state_LNestedCodes_State_ : Cond.fieldLink RX5 10 "NestedCodes" "state" "LNestedCodes$State;" ∈ wsX5_isResult := by decide +kernel
theorem qX5_isResult_Cond_initialized_RX4 : Cond.initialized RX4 ∈ wsX5_isResult := by decide +kernel
theorem qX5_isResult_Cond_instanceMethod_yX4_outerDistance : Cond.instanceMethod yX4_outerDistance ∈ wsX5_isResult := by decide +kernel
theorem qX5_isResult_Cond_selects_RX4_yX4_outerDistance_yX4_outerDistance : Cond.selects RX4 yX4_outerDistance yX4_outerDistance ∈ wsX5_isResult := by decide +kernel
set_option maxHeartbeats 4000000 in
set_option maxRecDepth 100000 in
theorem c_X5_isResult (l : Launch) (D : va_G) (Y : Nat → ClassId) (A : Nat → Nat) (B : Nat → Nat) (σ : Nat → Nat) (hn : Nat) (h : Nat → Nat → Nat) (r0 : Nat → Nat) (r1 : Nat → Nat) (r2 : Nat → Nat) (r3 : Nat → Nat) (r4 : Nat → Nat) (wt : Nat → Nat) (wn : Nat) (cw : Nat) (s9 : Nat) (ke : Nat) (m9 : Nat) (q9 : Nat → Bool) (kσ : zWF σ) (kr : zCon σ r0 r1 r2 r3 r4) (hcw : cw = zcwP m9) (hm : m9 < 4096) (hke : ke = mkP q9) (hs9 : s9 ≤ 12) : Met l yX5_isResult wsX5_isResult ({ frames := 2, cells := 0, slots := 0, locals := 45 } : Room) (va_Pc [.ref (A 0), .long (lN (cw)), .int (nI s9), .long (lN (ke))] (zB D Y (CX Y A B σ hn h (wdS σ) (ddS σ) r0 r1 r2 r3 r4 (σ 0) (pak (itC (wdS σ) σ) (σ 0)) (mkP (fun k9 => decide (k9 < σ 0))) wt wn))) (zR (.int (zq (2 * cnt (fun j => difB σ m9 j && (q9) j) 12 + s9 < σ 0 - σ 1 + 1)))) 0 0 (fun _ => False) := by
  refine zr_of (cc := cX5_isResult) (maxL := 7) (ret := (some .boolean)) (by decide) rfl (Nat.le_of_ble_eq_true rfl) ?_
  intro p e s m below meth c R args Q hR hx hb hml hr hlk hown hts hK hN hP hQ ls hl
  have hown : s.vm.findClass RX5 = some m.cls := hown
  have hl : lv_has ls 7 [(0, .ref (A 0)), (1, .long (lN (cw))), (3, .int (nI s9)), (4, .long (lN (ke)))] := hl
  have kw := kσ
  obtain ⟨n3, n12, d1, d3, dn, b4, b10, gl, lm, sn, wl, wnz⟩ := kw
  have pb := zp_b b10
  have pk9 := zp_k d3
  have hpak : pak (itC (wdS σ) σ) (σ 0) < 281474976710656 := Nat.lt_of_lt_of_le (pak_lt (fun j _ => itC_lt _ _ j)) (show 2 ^ (4 * σ 0) ≤ 2 ^ 48 from Nat.pow_le_pow_right (by decide) (by omega))
  have hbar := barS_le kσ
  have hcl : cw < 281474976710656 := by rw [hcw]; exact zcwP_lt hm
  refine lv_aload_n hx hb dX5_isResult_0 rfl (lv_at hl 0 rfl) ?_
  refine va_get (D := D) (ci := 5) (v := .ref (A 11)) (C := RX5) (T := TX5) (N := 7) hx hb hts qX5_isResult_inX5 hown hK hP 0 rfl rfl 4 (by decide) (hts _ qX5_isResult_Cond_fieldLink_RX5_40_NestedCodes_reading_LNestedCodes_Reading_) (fun _ h9 => h9) rfl dX5_isResult_1 ?_
  refine lv_lload_n hx hb dX5_isResult_4 rfl (lv_at hl 1 rfl) ?_
  refine zc_r (va_runVN (C := RX3) (As := [.long (lN (cw))]) (rest := []) ⟨hx, hb, hml, hown, hts⟩ (c_X3_differingBlocks l D Y A B σ hn h (wdS σ) (ddS σ) r0 r1 r2 r3 r4 (σ 0) (pak (itC (wdS σ) σ) (σ 0)) (mkP (fun k9 => decide (k9 < σ 0))) wt wn cw (by omega) hpak) ⟨(va_cnB 1 hts gX5_isResult_X3_differingBlocks_n219 rfl rfl rfl (kM_X5_219 hN) (hts _ qX5_isResult_Cond_initialized_RX3) (by decide +kernel) (by rw [hR]; exact ⟨Nat.le_of_ble_eq_true rfl, Nat.le_of_ble_eq_true rfl⟩)), (hts _ qX5_isResult_Cond_instanceMethod_yX3_differingBlocks), (hts _ qX5_isResult_Cond_selects_RX3_yX3_differingBlocks_yX3_differingBlocks)⟩ ⟨zB_blind, va_recv hK hP (ci := 3) (q0 := 11) rfl rfl, zp_r hP hK hN⟩ rfl rfl hl.1 rfl (lv_room (Nat.le_of_ble_eq_true rfl)) dX5_isResult_5 ⟨Nat.zero_le _, Nat.zero_le _⟩).run ?_
  refine lv_lload hx hb dX5_isResult_8 (lv_at hl 3 rfl) ?_
  refine zv_land hx hb (v := (lN ((mkS (cw ^^^ (pak (itC (wdS σ) σ) (σ 0))) &&& (mkP (fun k9 => decide (k9 < σ 0)))) &&& ke))) dX5_isResult_10 (fb_andL _ _) ?_
  refine zc_r (va_runS (As := [.long (lN ((mkS (cw ^^^ (pak (itC (wdS σ) σ) (σ 0))) &&& (mkP (fun k9 => decide (k9 < σ 0)))) &&& ke))]) (rest := []) ⟨hx, hb, hml, hown, hts⟩ (c_J13_bitCount_95d88 l D Y  ((mkS (cw ^^^ (pak (itC (wdS σ) σ) (σ 0))) &&& (mkP (fun k9 => decide (k9 < σ 0)))) &&& ke) (fun j => difB σ m9 j && q9 j) (by rw [hcw, hke, zdif n12 hm, mkP_and])) (va_cwS 1 hts gX5_isResult_J13_bitCount_95d88 rfl rfl rfl (by decide +kernel) (by rw [hR]; exact ⟨Nat.le_of_ble_eq_true rfl, Nat.le_of_ble_eq_true rfl⟩)) ⟨zB_blind, (zp_r (v := [.long (lN ((mkS (cw ^^^ (pak (itC (wdS σ) σ) (σ 0))) &&& (mkP (fun k9 => decide (k9 < σ 0)))) &&& ke))]) (fun k q h => absurd h (by simp)) hK hN)⟩ rfl rfl hl.1 rfl (lv_room (Nat.le_of_ble_eq_true rfl)) dX5_isResult_11 ⟨Nat.zero_le _, Nat.zero_le _⟩).run ?_
  have hc11 := cnt_le (fun j => difB σ m9 j && q9 j) 12
  refine lv_istore (lv' := [(6, .int (nI (cnt (fun j => difB σ m9 j && q9 j) 12))), (0, .ref (A 0)), (1, .long (lN (cw))), (3, .int (nI s9)), (4, .long (lN (ke)))]) hx hb dX5_isResult_14 hl (by decide) rfl (fun ls hl => ?_)
  refine lv_iconst (v := (nI 2)) hx hb dX5_isResult_16 (by decide) ?_
  refine lv_iload hx hb dX5_isResult_17 (lv_at hl 0 rfl) ?_
  refine zv_imul hx hb (v := (nI (2 * (cnt (fun j => difB σ m9 j && q9 j) 12)))) dX5_isResult_19 (pk_mul _ _) ?_
  refine lv_iload_n hx hb dX5_isResult_20 rfl (lv_at hl 3 rfl) ?_
  refine zv_iadd hx hb (v := (nI ((2 * (cnt (fun j => difB σ m9 j && q9 j) 12)) + s9))) dX5_isResult_21 (nI_add _ _) ?_
  refine lv_aload_n hx hb dX5_isResult_22 rfl (lv_at hl 1 rfl) ?_
  refine va_get (D := D) (ci := 5) (v := .ref (A 1)) (C := RX5) (T := TX5) (N := 7) hx hb hts qX5_isResult_inX5 hown hK hP 0 rfl rfl 0 (by decide) (hts _ qX5_isResult_Cond_fieldLink_RX5_10_NestedCodes_state_LNestedCodes_State_) (fun _ h9 => h9) rfl dX5_isResult_23 ?_
  refine zc_r (va_runVN (C := RX4) (As := []) (rest := [.int (nI ((2 * (cnt (fun j => difB σ m9 j && q9 j) 12)) + s9))]) ⟨hx, hb, hml, hown, hts⟩ (c_X4_outerDistance l D Y A B σ hn h (wdS σ) (ddS σ) r0 r1 r2 r3 r4 (σ 0) (pak (itC (wdS σ) σ) (σ 0)) (mkP (fun k9 => decide (k9 < σ 0))) wt wn  kσ) ⟨(va_cnB 0 hts gX5_isResult_X4_outerDistance_n87 rfl rfl rfl (kM_X5_87 hN) (hts _ qX5_isResult_Cond_initialized_RX4) (by decide +kernel) (by rw [hR]; exact ⟨Nat.le_of_ble_eq_true rfl, Nat.le_of_ble_eq_true rfl⟩)), (hts _ qX5_isResult_Cond_instanceMethod_yX4_outerDistance), (hts _ qX5_isResult_Cond_selects_RX4_yX4_outerDistance_yX4_outerDistance)⟩ ⟨zB_blind, va_recv hK hP (ci := 4) (q0 := 1) rfl rfl, zp_r hP hK hN⟩ rfl rfl hl.1 rfl (lv_room (Nat.le_of_ble_eq_true rfl)) dX5_isResult_26 ⟨Nat.zero_le _, Nat.zero_le _⟩).run ?_
  have J37 : W p l e R s m args below meth c s.heap [] 0 0 Q (F0 m 37 ls [.int (zq (2 * cnt (fun j => difB σ m9 j && (q9) j) 12 + s9 < σ 0 - σ 1 + 1))]) := by
    exact zr_z hx hb hr hlk hQ dX5_isResult_37 (rfl) (by first | exact zq_or _ | decide)
  refine zn_icmp_ge (tgt := 36)  hx hb dX5_isResult_29 (by decide) (by omega) (by omega) (fun c29 => ?_) (fun c29 => ?_)
  · refine lv_iconst (v := (nI 0)) hx hb dX5_isResult_36 (by decide) ?_
    refine zt_i (v := (zq (2 * cnt (fun j => difB σ m9 j && (q9) j) 12 + s9 < σ 0 - σ 1 + 1))) (by first | exact zq_nt (by omega) | exact zq_nf (by omega)) ?_
    exact J37
  · refine lv_iconst (v := (nI 1)) hx hb dX5_isResult_32 (by decide) ?_
    refine lv_goto (tgt := 37) hx hb dX5_isResult_33 (by decide) ?_
    refine zt_i (v := (zq (2 * cnt (fun j => difB σ m9 j && (q9) j) 12 + s9 < σ 0 - σ 1 + 1))) (by first | exact zq_nt (by omega) | exact zq_nf (by omega)) ?_
    exact J37
theorem qX5_lawfulMessage_Cond_fieldLink_RX5_10_NestedCodes_state_LNestedCodes_State_ : Cond.fieldLink RX5 10 "NestedCodes" "state" "LNestedCodes$State;" ∈ wsX5_lawfulMessage := by decide +kernel
theorem qX5_lawfulMessage_inX5 : ∀ w ∈ wsX50, w ∈ wsX5_lawfulMessage := by decide +kernel
theorem qX5_lawfulMessage_Cond_initialized_RX4 : Cond.initialized RX4 ∈ wsX5_lawfulMessage := by decide +kernel
theorem qX5_lawfulMessage_Cond_instanceMethod_yX4_outerDistance : Cond.instanceMethod yX4_outerDistance ∈ wsX5_lawfulMessage := by decide +kernel
theorem qX5_lawfulMessage_Cond_selects_RX4_yX4_outerDistance_yX4_outerDistance : Cond.selects RX4 yX4_outerDistance yX4_outerDistance ∈ wsX5_lawfulMessage := by decide +kernel
theorem qX5_lawfulMessage_Cond_instanceMethod_yX4_messages : Cond.instanceMethod yX4_messages ∈ wsX5_lawfulMessage := by decide +kernel
theorem qX5_lawfulMessage_Cond_selects_RX4_yX4_messages_yX4_messages : Cond.selects RX4 yX4_messages yX4_messages ∈ wsX5_lawfulMessage := by decide +kernel
theorem qX5_lawfulMessage_Cond_fieldLink_RX5_33_NestedCodes_outer_LNestedCodes_OuterCode_ : Cond.fieldLink RX5 33 "NestedCodes" "outer" "LNestedCodes$OuterCode;" ∈ wsX5_lawfulMessage := by decide +kernel
theorem qX5_lawfulMessage_Cond_initialized_RX2 : Cond.initialized RX2 ∈ wsX5_lawfulMessage := by decide +kernel
theorem qX5_lawfulMessage_Cond_instanceMethod_yX2_codeword : Cond.instanceMethod yX2_codeword ∈ wsX5_lawfulMessage := by decide +kernel
theorem qX5_lawfulMessage_Cond_selects_RX2_yX2_codeword_yX2_codeword : Cond.selects RX2 yX2_codeword yX2_codeword ∈ wsX5_lawfulMessage := by decide +kernel
theorem qX5_lawfulMessage_Cond_fieldLink_RX5_40_NestedCodes_reading_LNestedCodes_Reading_ : Cond.fieldLink RX5 40 "NestedCodes" "reading" "LNestedCodes$Reading;" ∈ wsX5_lawfulMessage := by decide +kernel
theorem qX5_lawfulMessage_Cond_initialized_RX3 : Cond.initialized RX3 ∈ wsX5_lawfulMessage := by decide +kernel
theorem qX5_lawfulMessage_Cond_instanceMethod_yX3_differingBlocks : Cond.instanceMethod yX3_differingBlocks ∈ wsX5_lawfulMessage := by decide +kernel
theorem qX5_lawfulMessage_Cond_selects_RX3_yX3_differingBlocks_yX3_differingBlocks : Cond.selects RX3 yX3_differingBlocks yX3_differingBlocks ∈ wsX5_lawfulMessage := by decide +kernel
theorem qX5_lawfulMessage_Cond_instanceMethod_yX3_scoreOf : Cond.instanceMethod yX3_scoreOf ∈ wsX5_lawfulMessage := by decide +kernel
theorem qX5_lawfulMessage_Cond_selects_RX3_yX3_scoreOf_yX3_scoreOf : Cond.selects RX3 yX3_scoreOf yX3_scoreOf ∈ wsX5_lawfulMessage := by decide +kernel
set_option maxHeartbeats 4000000 in
set_option maxRecDepth 100000 in
theorem c_X5_lawfulMessage (l : Launch) (D : va_G) (Y : Nat → ClassId) (A : Nat → Nat) (B : Nat → Nat) (σ : Nat → Nat) (hn : Nat) (h : Nat → Nat → Nat) (r0 : Nat → Nat) (r1 : Nat → Nat) (r2 : Nat → Nat) (r3 : Nat → Nat) (r4 : Nat → Nat) (wt : Nat → Nat) (wn : Nat)   (kσ : zWF σ) (kr : zCon σ r0 r1 r2 r3 r4) : Met l yX5_lawfulMessage wsX5_lawfulMessage ({ frames := 3, cells := 0, slots := 0, locals := 72 } : Room) (va_Pc [.ref (A 0)] (zB D Y (CX Y A B σ hn h (wdS σ) (ddS σ) r0 r1 r2 r3 r4 (σ 0) (pak (itC (wdS σ) σ) (σ 0)) (mkP (fun k9 => decide (k9 < σ 0))) wt wn))) (zR (.int (orI (nMs σ) (lawM σ) (-1)))) 0 0 (fun _ => False) := by
  refine zr_of (cc := cX5_lawfulMessage) (maxL := 7) (ret := (some .int)) (by decide) rfl (Nat.le_of_ble_eq_true rfl) ?_
  intro p e s m below meth c R args Q hR hx hb hml hr hlk hown hts hK hN hP hQ ls hl
  have hown : s.vm.findClass RX5 = some m.cls := hown
  have hl : lv_has ls 7 [(0, .ref (A 0))] := hl
  have kw := kσ
  obtain ⟨n3, n12, d1, d3, dn, b4, b10, gl, lm, sn, wl, wnz⟩ := kw
  have pb := zp_b b10
  have pk9 := zp_k d3
  have hpak : pak (itC (wdS σ) σ) (σ 0) < 281474976710656 := Nat.lt_of_lt_of_le (pak_lt (fun j _ => itC_lt _ _ j)) (show 2 ^ (4 * σ 0) ≤ 2 ^ 48 from Nat.pow_le_pow_right (by decide) (by omega))
  have hbar := barS_le kσ
  refine lv_aload_n hx hb dX5_lawfulMessage_0 rfl (lv_at hl 0 rfl) ?_
  refine zc_r (va_runV (As := []) (rest := []) ⟨hx, hb, hml, hown, hts⟩ (c_X5_lawBound l D Y A B σ hn h (wdS σ) (ddS σ) r0 r1 r2 r3 r4 (σ 0) (pak (itC (wdS σ) σ) (σ 0)) (mkP (fun k9 => decide (k9 < σ 0))) wt wn  kσ (Nat.le_trans (dd_le σ) (by decide))) (cwV 0 hts gX5_lawfulMessage_X5_lawBound rfl rfl rfl (by decide +kernel) (by rw [hR]; exact ⟨Nat.le_of_ble_eq_true rfl, Nat.le_of_ble_eq_true rfl⟩)) ⟨zB_blind, va_recv hK hP (ci := 5) (q0 := 0) rfl rfl, zp_r hP hK hN⟩ rfl rfl hl.1 rfl (lv_room (Nat.le_of_ble_eq_true rfl)) dX5_lawfulMessage_1 ⟨Nat.zero_le _, Nat.zero_le _⟩).run ?_
  refine zt_i (v := (nI (barS σ))) (rfl) ?_
  refine lv_istore_n (lv' := [(1, .int (nI (barS σ))), (0, .ref (A 0))]) hx hb dX5_lawfulMessage_4 rfl hl (by decide) rfl (fun ls hl => ?_)
  refine lv_aload_n hx hb dX5_lawfulMessage_5 rfl (lv_at hl 1 rfl) ?_
  refine va_get (D := D) (ci := 5) (v := .ref (A 1)) (C := RX5) (T := TX5) (N := 7) hx hb hts qX5_lawfulMessage_inX5 hown hK hP 0 rfl rfl 0 (by decide) (hts _ qX5_lawfulMessage_Cond_fieldLink_RX5_10_NestedCodes_state_LNestedCodes_State_) (fun _ h9 => h9) rfl dX5_lawfulMessage_6 ?_
  refine zc_r (va_runVN (C := RX4) (As := []) (rest := []) ⟨hx, hb, hml, hown, hts⟩ (c_X4_outerDistance l D Y A B σ hn h (wdS σ) (ddS σ) r0 r1 r2 r3 r4 (σ 0) (pak (itC (wdS σ) σ) (σ 0)) (mkP (fun k9 => decide (k9 < σ 0))) wt wn  kσ) ⟨(va_cnB 0 hts gX5_lawfulMessage_X4_outerDistance_n87 rfl rfl rfl (kM_X5_87 hN) (hts _ qX5_lawfulMessage_Cond_initialized_RX4) (by decide +kernel) (by rw [hR]; exact ⟨Nat.le_of_ble_eq_true rfl, Nat.le_of_ble_eq_true rfl⟩)), (hts _ qX5_lawfulMessage_Cond_instanceMethod_yX4_outerDistance), (hts _ qX5_lawfulMessage_Cond_selects_RX4_yX4_outerDistance_yX4_outerDistance)⟩ ⟨zB_blind, va_recv hK hP (ci := 4) (q0 := 1) rfl rfl, zp_r hP hK hN⟩ rfl rfl hl.1 rfl (lv_room (Nat.le_of_ble_eq_true rfl)) dX5_lawfulMessage_9 ⟨Nat.zero_le _, Nat.zero_le _⟩).run ?_
  refine lv_istore_n (lv' := [(2, .int (nI (σ 0 - σ 1 + 1))), (1, .int (nI (barS σ))), (0, .ref (A 0))]) hx hb dX5_lawfulMessage_12 rfl hl (by decide) rfl (fun ls hl => ?_)
  refine lv_aload_n hx hb dX5_lawfulMessage_13 rfl (lv_at hl 2 rfl) ?_
  refine va_get (D := D) (ci := 5) (v := .ref (A 1)) (C := RX5) (T := TX5) (N := 7) hx hb hts qX5_lawfulMessage_inX5 hown hK hP 0 rfl rfl 0 (by decide) (hts _ qX5_lawfulMessage_Cond_fieldLink_RX5_10_NestedCodes_state_LNestedCodes_State_) (fun _ h9 => h9) rfl dX5_lawfulMessage_14 ?_
  refine zc_r (va_runVN (C := RX4) (As := []) (rest := []) ⟨hx, hb, hml, hown, hts⟩ (c_X4_messages l D Y A B σ hn h (wdS σ) (ddS σ) r0 r1 r2 r3 r4 (σ 0) (pak (itC (wdS σ) σ) (σ 0)) (mkP (fun k9 => decide (k9 < σ 0))) wt wn  kσ) ⟨(va_cnB 0 hts gX5_lawfulMessage_X4_messages_n176 rfl rfl rfl (kM_X5_176 hN) (hts _ qX5_lawfulMessage_Cond_initialized_RX4) (by decide +kernel) (by rw [hR]; exact ⟨Nat.le_of_ble_eq_true rfl, Nat.le_of_ble_eq_true rfl⟩)), (hts _ qX5_lawfulMessage_Cond_instanceMethod_yX4_messages), (hts _ qX5_lawfulMessage_Cond_selects_RX4_yX4_messages_yX4_messages)⟩ ⟨zB_blind, va_recv hK hP (ci := 4) (q0 := 1) rfl rfl, zp_r hP hK hN⟩ rfl rfl hl.1 rfl (lv_room (Nat.le_of_ble_eq_true rfl)) dX5_lawfulMessage_17 ⟨Nat.zero_le _, Nat.zero_le _⟩).run ?_
  refine lv_istore_n (lv' := [(3, .int (nI (2 ^ (4 * σ 1)))), (2, .int (nI (σ 0 - σ 1 + 1))), (1, .int (nI (barS σ))), (0, .ref (A 0))]) hx hb dX5_lawfulMessage_20 rfl hl (by decide) rfl (fun ls hl => ?_)
  refine lv_iconst (v := (nI 0)) hx hb dX5_lawfulMessage_21 (by decide) ?_
  refine lv_istore (lv' := [(4, .int (nI 0)), (3, .int (nI (2 ^ (4 * σ 1)))), (2, .int (nI (σ 0 - σ 1 + 1))), (1, .int (nI (barS σ))), (0, .ref (A 0))]) hx hb dX5_lawfulMessage_22 hl (by decide) rfl (fun ls hl => ?_)
  have L24 : ∀ (n9 : Nat) (i : Nat) (hi : i ≤ 2 ^ (4 * σ 1)) (hno : ∀ j, j < i → lawB σ j = false), 2 ^ (4 * σ 1) - i < n9 → ∀ ls : Array Slot, lv_has ls 7 [(4, .int (nI i)), (3, .int (nI (2 ^ (4 * σ 1)))), (2, .int (nI (σ 0 - σ 1 + 1))), (1, .int (nI (barS σ))), (0, .ref (A 0))] → W p l e R s m args below meth c s.heap [] 0 0 Q (F0 m 24 ls []) := by
    intro n9
    induction n9 with
    | zero => intro i hi hno hn9; exact absurd hn9 (Nat.not_lt_zero _)
    | succ n9 ih9 =>
      have ih24 := ih9
      clear ih9
      intro i hi hno hn9 ls hl
      refine lv_iload hx hb dX5_lawfulMessage_24 (lv_at hl 0 rfl) ?_
      refine lv_iload_n hx hb dX5_lawfulMessage_26 rfl (lv_at hl 1 rfl) ?_
      refine zn_icmp_ge (tgt := 79)  hx hb dX5_lawfulMessage_27 (by decide) (by omega) (by omega) (fun c27 => ?_) (fun c27 => ?_)
      · obtain rfl : i = 2 ^ (4 * σ 1) := by omega
        refine lv_iconst (v := (-1)) hx hb dX5_lawfulMessage_79 (by decide) ?_
        exact zr_i hx hb hr hlk hQ dX5_lawfulMessage_80 (by rw [show lawM σ = nMs σ from zfst_no hno]; exact (if_neg (Nat.lt_irrefl _)).symm)
      · refine lv_aload_n hx hb dX5_lawfulMessage_30 rfl (lv_at hl 4 rfl) ?_
        refine va_get (D := D) (ci := 5) (v := .ref (A 9)) (C := RX5) (T := TX5) (N := 7) hx hb hts qX5_lawfulMessage_inX5 hown hK hP 0 rfl rfl 3 (by decide) (hts _ qX5_lawfulMessage_Cond_fieldLink_RX5_33_NestedCodes_outer_LNestedCodes_OuterCode_) (fun _ h9 => h9) rfl dX5_lawfulMessage_31 ?_
        refine lv_iload hx hb dX5_lawfulMessage_34 (lv_at hl 0 rfl) ?_
        refine zc_r (va_runVN (C := RX2) (As := [.int (nI i)]) (rest := []) ⟨hx, hb, hml, hown, hts⟩ (c_X2_codeword l D Y A B σ hn h (wdS σ) (ddS σ) r0 r1 r2 r3 r4 (σ 0) (pak (itC (wdS σ) σ) (σ 0)) (mkP (fun k9 => decide (k9 < σ 0))) wt wn i (by omega)) ⟨(va_cnB 1 hts gX5_lawfulMessage_X2_codeword_n114 rfl rfl rfl (kM_X5_114 hN) (hts _ qX5_lawfulMessage_Cond_initialized_RX2) (by decide +kernel) (by rw [hR]; exact ⟨Nat.le_of_ble_eq_true rfl, Nat.le_of_ble_eq_true rfl⟩)), (hts _ qX5_lawfulMessage_Cond_instanceMethod_yX2_codeword), (hts _ qX5_lawfulMessage_Cond_selects_RX2_yX2_codeword_yX2_codeword)⟩ ⟨zB_blind, va_recv hK hP (ci := 2) (q0 := 9) rfl rfl, zp_r hP hK hN⟩ rfl rfl hl.1 rfl (lv_room (Nat.le_of_ble_eq_true rfl)) dX5_lawfulMessage_36 ⟨Nat.zero_le _, Nat.zero_le _⟩).run ?_
        refine lv_lstore (lv' := [(5, .long (lN (zcwP i))), (4, .int (nI i)), (3, .int (nI (2 ^ (4 * σ 1)))), (2, .int (nI (σ 0 - σ 1 + 1))), (1, .int (nI (barS σ))), (0, .ref (A 0))]) hx hb dX5_lawfulMessage_39 hl (by decide) rfl (fun ls hl => ?_)
        refine lv_aload_n hx hb dX5_lawfulMessage_41 rfl (lv_at hl 5 rfl) ?_
        refine va_get (D := D) (ci := 5) (v := .ref (A 11)) (C := RX5) (T := TX5) (N := 7) hx hb hts qX5_lawfulMessage_inX5 hown hK hP 0 rfl rfl 4 (by decide) (hts _ qX5_lawfulMessage_Cond_fieldLink_RX5_40_NestedCodes_reading_LNestedCodes_Reading_) (fun _ h9 => h9) rfl dX5_lawfulMessage_42 ?_
        refine lv_lload hx hb dX5_lawfulMessage_45 (lv_at hl 0 rfl) ?_
        refine zc_r (va_runVN (C := RX3) (As := [.long (lN (zcwP i))]) (rest := []) ⟨hx, hb, hml, hown, hts⟩ (c_X3_differingBlocks l D Y A B σ hn h (wdS σ) (ddS σ) r0 r1 r2 r3 r4 (σ 0) (pak (itC (wdS σ) σ) (σ 0)) (mkP (fun k9 => decide (k9 < σ 0))) wt wn (zcwP i) (zcwP_lt (by omega)) hpak) ⟨(va_cnB 1 hts gX5_lawfulMessage_X3_differingBlocks_n219 rfl rfl rfl (kM_X5_219 hN) (hts _ qX5_lawfulMessage_Cond_initialized_RX3) (by decide +kernel) (by rw [hR]; exact ⟨Nat.le_of_ble_eq_true rfl, Nat.le_of_ble_eq_true rfl⟩)), (hts _ qX5_lawfulMessage_Cond_instanceMethod_yX3_differingBlocks), (hts _ qX5_lawfulMessage_Cond_selects_RX3_yX3_differingBlocks_yX3_differingBlocks)⟩ ⟨zB_blind, va_recv hK hP (ci := 3) (q0 := 11) rfl rfl, zp_r hP hK hN⟩ rfl rfl hl.1 rfl (lv_room (Nat.le_of_ble_eq_true rfl)) dX5_lawfulMessage_47 ⟨Nat.zero_le _, Nat.zero_le _⟩).run ?_
        refine zc_r (va_runS (As := [.long (lN (mkS ((zcwP i) ^^^ (pak (itC (wdS σ) σ) (σ 0))) &&& (mkP (fun k9 => decide (k9 < σ 0)))))]) (rest := []) ⟨hx, hb, hml, hown, hts⟩ (c_J13_bitCount_95d88 l D Y  (mkS ((zcwP i) ^^^ (pak (itC (wdS σ) σ) (σ 0))) &&& (mkP (fun k9 => decide (k9 < σ 0)))) (difB σ i) (zdif n12 (by omega))) (va_cwS 1 hts gX5_lawfulMessage_J13_bitCount_95d88 rfl rfl rfl (by decide +kernel) (by rw [hR]; exact ⟨Nat.le_of_ble_eq_true rfl, Nat.le_of_ble_eq_true rfl⟩)) ⟨zB_blind, (zp_r (v := [.long (lN (mkS ((zcwP i) ^^^ (pak (itC (wdS σ) σ) (σ 0))) &&& (mkP (fun k9 => decide (k9 < σ 0)))))]) (fun k q h => absurd h (by simp)) hK hN)⟩ rfl rfl hl.1 rfl (lv_room (Nat.le_of_ble_eq_true rfl)) dX5_lawfulMessage_50 ⟨Nat.zero_le _, Nat.zero_le _⟩).run ?_
        have hc50 := cnt_le (difB σ i) 12
        refine lv_iload_n hx hb dX5_lawfulMessage_53 rfl (lv_at hl 3 rfl) ?_
        refine zn_icmp_ge (tgt := 73)  hx hb dX5_lawfulMessage_54 (by decide) (by omega) (by omega) (fun c54 => ?_) (fun c54 => ?_)
        · refine lv_iinc (v := (nI (i + 1))) (lv' := [(4, .int (nI (i + 1))), (5, .long (lN (zcwP i))), (3, .int (nI (2 ^ (4 * σ 1)))), (2, .int (nI (σ 0 - σ 1 + 1))), (1, .int (nI (barS σ))), (0, .ref (A 0))]) hx hb dX5_lawfulMessage_73 hl (k := 1) rfl (zinc _) (by decide) rfl (fun ls hl => ?_)
          refine lv_goto (tgt := 24) hx hb dX5_lawfulMessage_76 (by decide) ?_
          exact ih24 (i + 1) (by omega) (fun j hj => (Nat.lt_or_ge j i).elim (hno j) (fun h9 => by rw [show j = i from by omega]; exact decide_eq_false (by omega))) (by omega) ls (lv_sub hl [0, 2, 3, 4, 5] rfl)
        · refine lv_aload_n hx hb dX5_lawfulMessage_57 rfl (lv_at hl 5 rfl) ?_
          refine va_get (D := D) (ci := 5) (v := .ref (A 11)) (C := RX5) (T := TX5) (N := 7) hx hb hts qX5_lawfulMessage_inX5 hown hK hP 0 rfl rfl 4 (by decide) (hts _ qX5_lawfulMessage_Cond_fieldLink_RX5_40_NestedCodes_reading_LNestedCodes_Reading_) (fun _ h9 => h9) rfl dX5_lawfulMessage_58 ?_
          refine lv_lload hx hb dX5_lawfulMessage_61 (lv_at hl 0 rfl) ?_
          refine zc_r (va_runVN (C := RX3) (As := [.long (lN (zcwP i))]) (rest := []) ⟨hx, hb, hml, hown, hts⟩ (c_X3_scoreOf l D Y A B σ hn h (wdS σ) (ddS σ) r0 r1 r2 r3 r4 (σ 0) (pak (itC (wdS σ) σ) (σ 0)) (mkP (fun k9 => decide (k9 < σ 0))) wt wn (zcwP i) (zcwP_lt (by omega)) hpak n12) ⟨(va_cnB 1 hts gX5_lawfulMessage_X3_scoreOf_n183 rfl rfl rfl (kM_X5_183 hN) (hts _ qX5_lawfulMessage_Cond_initialized_RX3) (by decide +kernel) (by rw [hR]; exact ⟨Nat.le_of_ble_eq_true rfl, Nat.le_of_ble_eq_true rfl⟩)), (hts _ qX5_lawfulMessage_Cond_instanceMethod_yX3_scoreOf), (hts _ qX5_lawfulMessage_Cond_selects_RX3_yX3_scoreOf_yX3_scoreOf)⟩ ⟨zB_blind, va_recv hK hP (ci := 3) (q0 := 11) rfl rfl, zp_r hP hK hN⟩ rfl rfl hl.1 rfl (lv_room (Nat.le_of_ble_eq_true rfl)) dX5_lawfulMessage_63 ⟨Nat.zero_le _, Nat.zero_le _⟩).run ?_
          have hsb := scS_b n12 i
          refine zt_i (v := (zI (scS σ i))) (by rw [zdif n12 (by omega)]; exact congrArg zI (scD_ok n12 (fun j hj => (kr j hj).2.2.1))) ?_
          refine lv_iload_n hx hb dX5_lawfulMessage_66 rfl (lv_at hl 4 rfl) ?_
          refine zz_icmp_le (tgt := 73) (a := scS σ i) (b := (((barS σ : Nat)) : Int)) hx hb dX5_lawfulMessage_67 (by decide) (zI_toInt (by omega) (by omega)) (zt_n (by omega)) (fun c67 => ?_) (fun c67 => ?_)
          · refine lv_iinc (v := (nI (i + 1))) (lv' := [(4, .int (nI (i + 1))), (5, .long (lN (zcwP i))), (3, .int (nI (2 ^ (4 * σ 1)))), (2, .int (nI (σ 0 - σ 1 + 1))), (1, .int (nI (barS σ))), (0, .ref (A 0))]) hx hb dX5_lawfulMessage_73 hl (k := 1) rfl (zinc _) (by decide) rfl (fun ls hl => ?_)
            refine lv_goto (tgt := 24) hx hb dX5_lawfulMessage_76 (by decide) ?_
            exact ih24 (i + 1) (by omega) (fun j hj => (Nat.lt_or_ge j i).elim (hno j) (fun h9 => by rw [show j = i from by omega]; exact decide_eq_false (by omega))) (by omega) ls (lv_sub hl [0, 2, 3, 4, 5] rfl)
          · refine lv_iload hx hb dX5_lawfulMessage_70 (lv_at hl 1 rfl) ?_
            exact zr_i hx hb hr hlk hQ dX5_lawfulMessage_72 (by rw [show lawM σ = i from zfst_at hno (decide_eq_true ⟨by omega, by omega⟩) (show i < 2 ^ (4 * σ 1) by omega)]; exact (if_pos (show i < 2 ^ (4 * σ 1) by omega)).symm)
  exact L24 (2 ^ (4 * σ 1) - 0 + 1) 0 (by omega) (fun j hj => absurd hj (Nat.not_lt_zero j)) (Nat.lt_succ_self _) ls (lv_sub hl [0, 1, 2, 3, 4] rfl)
theorem qX5_partInSentScore_Cond_fieldLink_RX5_40_NestedCodes_reading_LNestedCodes_Reading_ : Cond.fieldLink RX5 40 "NestedCodes" "reading" "LNestedCodes$Reading;" ∈ wsX5_partInSentScore := by decide +kernel
theorem qX5_partInSentScore_inX5 : ∀ w ∈ wsX50, w ∈ wsX5_partInSentScore := by decide +kernel
theorem qX5_partInSentScore_inX3 : ∀ w ∈ wsX30, w ∈ wsX5_partInSentScore := by decide +kernel
set_option maxHeartbeats 4000000 in
set_option maxRecDepth 100000 in
theorem c_X5_partInSentScore (l : Launch) (D : va_G) (Y : Nat → ClassId) (A : Nat → Nat) (B : Nat → Nat) (σ : Nat → Nat) (hn : Nat) (h : Nat → Nat → Nat) (r0 : Nat → Nat) (r1 : Nat → Nat) (r2 : Nat → Nat) (r3 : Nat → Nat) (r4 : Nat → Nat) (wt : Nat → Nat) (wn : Nat) (j : Nat)  (kσ : zWF σ) (kr : zCon σ r0 r1 r2 r3 r4) (hj : j < σ 0) : Met l yX5_partInSentScore wsX5_partInSentScore ({ frames := 2, cells := 0, slots := 0, locals := 43 } : Room) (va_Pc [.ref (A 0), .int (nI j)] (zB D Y (CX Y A B σ hn h (wdS σ) (ddS σ) r0 r1 r2 r3 r4 (σ 0) (pak (itC (wdS σ) σ) (σ 0)) (mkP (fun k9 => decide (k9 < σ 0))) wt wn))) (zR (.int (zI (ptS σ j)))) 0 0 (fun _ => False) := by
  refine zr_of (cc := cX5_partInSentScore) (maxL := 3) (ret := (some .int)) (by decide) rfl (Nat.le_of_ble_eq_true rfl) ?_
  intro p e s m below meth c R args Q hR hx hb hml hr hlk hown hts hK hN hP hQ ls hl
  have hown : s.vm.findClass RX5 = some m.cls := hown
  have hl : lv_has ls 3 [(0, .ref (A 0)), (1, .int (nI j))] := hl
  have kw := kσ
  obtain ⟨n3, n12, d1, d3, dn, b4, b10, gl, lm, sn, wl, wnz⟩ := kw
  have pb := zp_b b10
  have pk9 := zp_k d3
  have hpak : pak (itC (wdS σ) σ) (σ 0) < 281474976710656 := Nat.lt_of_lt_of_le (pak_lt (fun j _ => itC_lt _ _ j)) (show 2 ^ (4 * σ 0) ≤ 2 ^ 48 from Nat.pow_le_pow_right (by decide) (by omega))
  have hbar := barS_le kσ
  have hit := itS_lt σ j
  have htr := trS_le σ j
  refine lv_aload_n hx hb dX5_partInSentScore_0 rfl (lv_at hl 0 rfl) ?_
  refine va_get (D := D) (ci := 5) (v := .ref (A 11)) (C := RX5) (T := TX5) (N := 7) hx hb hts qX5_partInSentScore_inX5 hown hK hP 0 rfl rfl 4 (by decide) (hts _ qX5_partInSentScore_Cond_fieldLink_RX5_40_NestedCodes_reading_LNestedCodes_Reading_) (fun _ h9 => h9) rfl dX5_partInSentScore_1 ?_
  refine va_getN (D := D) (ci := 3) (v := .ref (A 14)) (C := RX3) (T := TX3) (N := 8) hx hb hts qX5_partInSentScore_inX3 hown hK hP 11 rfl rfl 2 (by decide) (kN_X5_158 hN) (fun _ h9 => h9) rfl dX5_partInSentScore_4 ?_
  refine lv_iload_n hx hb dX5_partInSentScore_7 rfl (lv_at hl 1 rfl) ?_
  refine za_i hx hb hK hP 14 (f := fun k9 => nI (r2 k9)) (v := (nI (trS σ j))) rfl (by omega) (by decide) dX5_partInSentScore_8 (congrArg nI (kr j hj).2.2.1) ?_
  refine lv_istore_n (lv' := [(2, .int (nI (trS σ j))), (0, .ref (A 0)), (1, .int (nI j))]) hx hb dX5_partInSentScore_9 rfl hl (by decide) rfl (fun ls hl => ?_)
  refine lv_aload_n hx hb dX5_partInSentScore_10 rfl (lv_at hl 1 rfl) ?_
  refine va_get (D := D) (ci := 5) (v := .ref (A 11)) (C := RX5) (T := TX5) (N := 7) hx hb hts qX5_partInSentScore_inX5 hown hK hP 0 rfl rfl 4 (by decide) (hts _ qX5_partInSentScore_Cond_fieldLink_RX5_40_NestedCodes_reading_LNestedCodes_Reading_) (fun _ h9 => h9) rfl dX5_partInSentScore_11 ?_
  refine va_getN (D := D) (ci := 3) (v := .ref (A 12)) (C := RX3) (T := TX3) (N := 8) hx hb hts qX5_partInSentScore_inX3 hown hK hP 11 rfl rfl 0 (by decide) (kN_X5_155 hN) (fun _ h9 => h9) rfl dX5_partInSentScore_14 ?_
  refine lv_iload_n hx hb dX5_partInSentScore_17 rfl (lv_at hl 2 rfl) ?_
  refine za_i hx hb hK hP 12 (f := fun k9 => nI (r0 k9)) (v := (nI (itS σ j))) rfl (by omega) (by decide) dX5_partInSentScore_18 (congrArg nI (kr j hj).1) ?_
  refine lv_aload_n hx hb dX5_partInSentScore_19 rfl (lv_at hl 1 rfl) ?_
  refine lv_iload_n hx hb dX5_partInSentScore_20 rfl (lv_at hl 2 rfl) ?_
  refine zc_r (va_runV (As := [.int (nI j)]) (rest := [.int (nI (itS σ j))]) ⟨hx, hb, hml, hown, hts⟩ (c_X5_sentSymbol l D Y A B σ hn h (wdS σ) (ddS σ) r0 r1 r2 r3 r4 (σ 0) (pak (itC (wdS σ) σ) (σ 0)) (mkP (fun k9 => decide (k9 < σ 0))) wt wn j kσ (by omega)) (cwV 1 hts gX5_partInSentScore_X5_sentSymbol rfl rfl rfl (by decide +kernel) (by rw [hR]; exact ⟨Nat.le_of_ble_eq_true rfl, Nat.le_of_ble_eq_true rfl⟩)) ⟨zB_blind, va_recv hK hP (ci := 5) (q0 := 0) rfl rfl, zp_r hP hK hN⟩ rfl rfl hl.1 rfl (lv_room (Nat.le_of_ble_eq_true rfl)) dX5_partInSentScore_21 ⟨Nat.zero_le _, Nat.zero_le _⟩).run ?_
  have hzc : zcw (σ 8) j < 16 := zcw_lt (by omega) (by omega)
  refine zn_icmp_ne (tgt := 31)  hx hb dX5_partInSentScore_24 (by decide) (by omega) (by omega) (fun c24 => ?_) (fun c24 => ?_)
  · refine lv_iload_n hx hb dX5_partInSentScore_31 rfl (lv_at hl 0 rfl) ?_
    refine zv_ineg hx hb (v := (zI (-((trS σ j : Nat) : Int)))) dX5_partInSentScore_32 (by rw [zI_nat]; exact zI_neg _) ?_
    exact zr_i hx hb hr hlk hQ dX5_partInSentScore_33 (congrArg zI (if_neg c24).symm)
  · refine lv_iload_n hx hb dX5_partInSentScore_27 rfl (lv_at hl 0 rfl) ?_
    refine lv_goto (tgt := 33) hx hb dX5_partInSentScore_28 (by decide) ?_
    exact zr_i hx hb hr hlk hQ dX5_partInSentScore_33 (by rw [zI_nat]; exact congrArg zI (if_pos c24).symm)
theorem qX5_fragileBitsOf_Cond_fieldLink_RX5_40_NestedCodes_reading_LNestedCodes_Reading_ : Cond.fieldLink RX5 40 "NestedCodes" "reading" "LNestedCodes$Reading;" ∈ wsX5_fragileBitsOf := by decide +kernel
theorem qX5_fragileBitsOf_inX5 : ∀ w ∈ wsX50, w ∈ wsX5_fragileBitsOf := by decide +kernel
theorem qX5_fragileBitsOf_Cond_fieldLink_RX5_33_NestedCodes_outer_LNestedCodes_OuterCode_ : Cond.fieldLink RX5 33 "NestedCodes" "outer" "LNestedCodes$OuterCode;" ∈ wsX5_fragileBitsOf := by decide +kernel
theorem qX5_fragileBitsOf_Cond_fieldLink_RX5_10_NestedCodes_state_LNestedCodes_State_ : Cond.fieldLink RX5 10 "NestedCodes" "state" "LNestedCodes$State;" ∈ wsX5_fragileBitsOf := by decide +kernel
theorem qX5_fragileBitsOf_inX4 : ∀ w ∈ wsX40, w ∈ wsX5_fragileBitsOf := by decide +kernel
theorem qX5_fragileBitsOf_Cond_initialized_RX2 : Cond.initialized RX2 ∈ wsX5_fragileBitsOf := by decide +kernel
theorem qX5_fragileBitsOf_Cond_instanceMethod_yX2_codeword : Cond.instanceMethod yX2_codeword ∈ wsX5_fragileBitsOf := by decide +kernel
theorem qX5_fragileBitsOf_Cond_selects_RX2_yX2_codeword_yX2_codeword : Cond.selects RX2 yX2_codeword yX2_codeword ∈ wsX5_fragileBitsOf := by decide +kernel
theorem qX5_fragileBitsOf_Cond_initialized_RX3 : Cond.initialized RX3 ∈ wsX5_fragileBitsOf := by decide +kernel
theorem qX5_fragileBitsOf_Cond_instanceMethod_yX3_scoreOf : Cond.instanceMethod yX3_scoreOf ∈ wsX5_fragileBitsOf := by decide +kernel
theorem qX5_fragileBitsOf_Cond_selects_RX3_yX3_scoreOf_yX3_scoreOf : Cond.selects RX3 yX3_scoreOf yX3_scoreOf ∈ wsX5_fragileBitsOf := by decide +kernel
theorem qX5_fragileBitsOf_Cond_fieldLink_RX5_26_NestedCodes_inner_LNestedCodes_InnerCode_ : Cond.fieldLink RX5 26 "NestedCodes" "inner" "LNestedCodes$InnerCode;" ∈ wsX5_fragileBitsOf := by decide +kernel
theorem qX5_fragileBitsOf_Cond_initialized_RX1 : Cond.initialized RX1 ∈ wsX5_fragileBitsOf := by decide +kernel
theorem qX5_fragileBitsOf_Cond_instanceMethod_yX1_symbolOf : Cond.instanceMethod yX1_symbolOf ∈ wsX5_fragileBitsOf := by decide +kernel
theorem qX5_fragileBitsOf_Cond_selects_RX1_yX1_symbolOf_yX1_symbolOf : Cond.selects RX1 yX1_symbolOf yX1_symbolOf ∈ wsX5_fragileBitsOf := by decide +kernel
theorem qX5_fragileBitsOf_Cond_instanceMethod_yX1_bitsBetween : Cond.instanceMethod yX1_bitsBetween ∈ wsX5_fragileBitsOf := by decide +kernel
theorem qX5_fragileBitsOf_Cond_selects_RX1_yX1_bitsBetween_yX1_bitsBetween : Cond.selects RX1 yX1_bitsBetween yX1_bitsBetween ∈ wsX5_fragileBitsOf := by decide +kernel
theorem qX5_fragileBitsOf_Cond_instanceMethod_yX1_reliability : Cond.instanceMethod yX1_reliability ∈ wsX5_fragileBitsOf := by decide +kernel
theorem qX5_fragileBitsOf_Cond_selects_RX1_yX1_reliability_yX1_reliability : Cond.selects RX1 yX1_reliability yX1_reliability ∈ wsX5_fragileBitsOf := by decide +kernel
set_option maxHeartbeats 4000000 in
set_option maxRecDepth 100000 in
theorem c_X5_fragileBitsOf (l : Launch) (D : va_G) (Y : Nat → ClassId) (A : Nat → Nat) (B : Nat → Nat) (σ : Nat → Nat) (hn : Nat) (h : Nat → Nat → Nat) (r0 : Nat → Nat) (r1 : Nat → Nat) (r2 : Nat → Nat) (r3 : Nat → Nat) (r4 : Nat → Nat) (wt : Nat → Nat) (wn : Nat) (j : Nat)  (kσ : zWF σ) (kr : zCon σ r0 r1 r2 r3 r4) (hj : j < σ 0) : Met l yX5_fragileBitsOf wsX5_fragileBitsOf ({ frames := 3, cells := 0, slots := 0, locals := 72 } : Room) (va_Pc [.ref (A 0), .int (nI j)] (zB D Y (CX Y A B σ hn h (wdS σ) (ddS σ) r0 r1 r2 r3 r4 (σ 0) (pak (itC (wdS σ) σ) (σ 0)) (mkP (fun k9 => decide (k9 < σ 0))) wt wn))) (zR (.int (nI (cnt (frbP σ j) (σ 2))))) 0 0 (fun _ => False) := by
  refine zr_of (cc := cX5_fragileBitsOf) (maxL := 10) (ret := (some .int)) (by decide) rfl (Nat.le_of_ble_eq_true rfl) ?_
  intro p e s m below meth c R args Q hR hx hb hml hr hlk hown hts hK hN hP hQ ls hl
  have hown : s.vm.findClass RX5 = some m.cls := hown
  have hl : lv_has ls 10 [(0, .ref (A 0)), (1, .int (nI j))] := hl
  have kw := kσ
  obtain ⟨n3, n12, d1, d3, dn, b4, b10, gl, lm, sn, wl, wnz⟩ := kw
  have pb := zp_b b10
  have pk9 := zp_k d3
  have hpak : pak (itC (wdS σ) σ) (σ 0) < 281474976710656 := Nat.lt_of_lt_of_le (pak_lt (fun j _ => itC_lt _ _ j)) (show 2 ^ (4 * σ 0) ≤ 2 ^ 48 from Nat.pow_le_pow_right (by decide) (by omega))
  have hbar := barS_le kσ
  refine lv_aload_n hx hb dX5_fragileBitsOf_0 rfl (lv_at hl 0 rfl) ?_
  refine lv_iload_n hx hb dX5_fragileBitsOf_1 rfl (lv_at hl 1 rfl) ?_
  refine zc_r (va_runV (As := [.int (nI j)]) (rest := []) ⟨hx, hb, hml, hown, hts⟩ (c_X5_sentSymbol l D Y A B σ hn h (wdS σ) (ddS σ) r0 r1 r2 r3 r4 (σ 0) (pak (itC (wdS σ) σ) (σ 0)) (mkP (fun k9 => decide (k9 < σ 0))) wt wn j kσ (by omega)) (cwV 1 hts gX5_fragileBitsOf_X5_sentSymbol rfl rfl rfl (by decide +kernel) (by rw [hR]; exact ⟨Nat.le_of_ble_eq_true rfl, Nat.le_of_ble_eq_true rfl⟩)) ⟨zB_blind, va_recv hK hP (ci := 5) (q0 := 0) rfl rfl, zp_r hP hK hN⟩ rfl rfl hl.1 rfl (lv_room (Nat.le_of_ble_eq_true rfl)) dX5_fragileBitsOf_2 ⟨Nat.zero_le _, Nat.zero_le _⟩).run ?_
  refine lv_istore_n (lv' := [(2, .int (nI (zcw (σ 8) j))), (0, .ref (A 0)), (1, .int (nI j))]) hx hb dX5_fragileBitsOf_5 rfl hl (by decide) rfl (fun ls hl => ?_)
  refine lv_aload_n hx hb dX5_fragileBitsOf_6 rfl (lv_at hl 1 rfl) ?_
  refine va_get (D := D) (ci := 5) (v := .ref (A 11)) (C := RX5) (T := TX5) (N := 7) hx hb hts qX5_fragileBitsOf_inX5 hown hK hP 0 rfl rfl 4 (by decide) (hts _ qX5_fragileBitsOf_Cond_fieldLink_RX5_40_NestedCodes_reading_LNestedCodes_Reading_) (fun _ h9 => h9) rfl dX5_fragileBitsOf_7 ?_
  refine lv_aload_n hx hb dX5_fragileBitsOf_10 rfl (lv_at hl 1 rfl) ?_
  refine va_get (D := D) (ci := 5) (v := .ref (A 9)) (C := RX5) (T := TX5) (N := 7) hx hb hts qX5_fragileBitsOf_inX5 hown hK hP 0 rfl rfl 3 (by decide) (hts _ qX5_fragileBitsOf_Cond_fieldLink_RX5_33_NestedCodes_outer_LNestedCodes_OuterCode_) (fun _ h9 => h9) rfl dX5_fragileBitsOf_11 ?_
  refine lv_aload_n hx hb dX5_fragileBitsOf_14 rfl (lv_at hl 1 rfl) ?_
  refine va_get (D := D) (ci := 5) (v := .ref (A 1)) (C := RX5) (T := TX5) (N := 7) hx hb hts qX5_fragileBitsOf_inX5 hown hK hP 0 rfl rfl 0 (by decide) (hts _ qX5_fragileBitsOf_Cond_fieldLink_RX5_10_NestedCodes_state_LNestedCodes_State_) (fun _ h9 => h9) rfl dX5_fragileBitsOf_15 ?_
  refine va_getN (D := D) (ci := 4) (v := .int (nI (σ 8))) (C := RX4) (T := TX4) (N := 7) hx hb hts qX5_fragileBitsOf_inX4 hown hK hP 1 rfl rfl 6 (by decide) (kN_X5_122 hN) (fun _ h9 => h9) rfl dX5_fragileBitsOf_18 ?_
  refine zc_r (va_runVN (C := RX2) (As := [.int (nI (σ 8))]) (rest := [.ref (A 11)]) ⟨hx, hb, hml, hown, hts⟩ (c_X2_codeword l D Y A B σ hn h (wdS σ) (ddS σ) r0 r1 r2 r3 r4 (σ 0) (pak (itC (wdS σ) σ) (σ 0)) (mkP (fun k9 => decide (k9 < σ 0))) wt wn (σ 8) (by omega)) ⟨(va_cnB 1 hts gX5_fragileBitsOf_X2_codeword_n114 rfl rfl rfl (kM_X5_114 hN) (hts _ qX5_fragileBitsOf_Cond_initialized_RX2) (by decide +kernel) (by rw [hR]; exact ⟨Nat.le_of_ble_eq_true rfl, Nat.le_of_ble_eq_true rfl⟩)), (hts _ qX5_fragileBitsOf_Cond_instanceMethod_yX2_codeword), (hts _ qX5_fragileBitsOf_Cond_selects_RX2_yX2_codeword_yX2_codeword)⟩ ⟨zB_blind, va_recv hK hP (ci := 2) (q0 := 9) rfl rfl, zp_r hP hK hN⟩ rfl rfl hl.1 rfl (lv_room (Nat.le_of_ble_eq_true rfl)) dX5_fragileBitsOf_21 ⟨Nat.zero_le _, Nat.zero_le _⟩).run ?_
  refine zc_r (va_runVN (C := RX3) (As := [.long (lN (zcwP (σ 8)))]) (rest := []) ⟨hx, hb, hml, hown, hts⟩ (c_X3_scoreOf l D Y A B σ hn h (wdS σ) (ddS σ) r0 r1 r2 r3 r4 (σ 0) (pak (itC (wdS σ) σ) (σ 0)) (mkP (fun k9 => decide (k9 < σ 0))) wt wn (zcwP (σ 8)) (zcwP_lt (by omega)) hpak n12) ⟨(va_cnB 1 hts gX5_fragileBitsOf_X3_scoreOf_n183 rfl rfl rfl (kM_X5_183 hN) (hts _ qX5_fragileBitsOf_Cond_initialized_RX3) (by decide +kernel) (by rw [hR]; exact ⟨Nat.le_of_ble_eq_true rfl, Nat.le_of_ble_eq_true rfl⟩)), (hts _ qX5_fragileBitsOf_Cond_instanceMethod_yX3_scoreOf), (hts _ qX5_fragileBitsOf_Cond_selects_RX3_yX3_scoreOf_yX3_scoreOf)⟩ ⟨zB_blind, va_recv hK hP (ci := 3) (q0 := 11) rfl rfl, zp_r hP hK hN⟩ rfl rfl hl.1 rfl (lv_room (Nat.le_of_ble_eq_true rfl)) dX5_fragileBitsOf_24 ⟨Nat.zero_le _, Nat.zero_le _⟩).run ?_
  have hsb := scS_b n12 (σ 8)
  refine zt_i (v := (zI (scS σ (σ 8)))) (by rw [zdif n12 (by omega)]; exact congrArg zI (scD_ok n12 (fun j hj => (kr j hj).2.2.1))) ?_
  refine lv_aload_n hx hb dX5_fragileBitsOf_27 rfl (lv_at hl 1 rfl) ?_
  refine lv_iload_n hx hb dX5_fragileBitsOf_28 rfl (lv_at hl 2 rfl) ?_
  refine zc_r (va_runV (As := [.int (nI j)]) (rest := [.int (zI (scS σ (σ 8)))]) ⟨hx, hb, hml, hown, hts⟩ (c_X5_partInSentScore l D Y A B σ hn h r0 r1 r2 r3 r4 wt wn j kσ kr (by omega)) (cwV 1 hts gX5_fragileBitsOf_X5_partInSentScore rfl rfl rfl (by decide +kernel) (by rw [hR]; exact ⟨Nat.le_of_ble_eq_true rfl, Nat.le_of_ble_eq_true rfl⟩)) ⟨zB_blind, va_recv hK hP (ci := 5) (q0 := 0) rfl rfl, zp_r hP hK hN⟩ rfl rfl hl.1 rfl (lv_room (Nat.le_of_ble_eq_true rfl)) dX5_fragileBitsOf_29 ⟨Nat.zero_le _, Nat.zero_le _⟩).run ?_
  have hpt29 := ptS_b σ j
  refine zv_isub hx hb (v := (zI ((scS σ (σ 8)) - (ptS σ j)))) dX5_fragileBitsOf_32 (by exact zI_sub _ _) ?_
  refine lv_istore_n (lv' := [(3, .int (zI ((scS σ (σ 8)) - (ptS σ j)))), (2, .int (nI (zcw (σ 8) j))), (0, .ref (A 0)), (1, .int (nI j))]) hx hb dX5_fragileBitsOf_33 rfl hl (by decide) rfl (fun ls hl => ?_)
  refine lv_iconst (v := (nI 0)) hx hb dX5_fragileBitsOf_34 (by decide) ?_
  refine lv_istore (lv' := [(4, .int (nI 0)), (3, .int (zI ((scS σ (σ 8)) - (ptS σ j)))), (2, .int (nI (zcw (σ 8) j))), (0, .ref (A 0)), (1, .int (nI j))]) hx hb dX5_fragileBitsOf_35 hl (by decide) rfl (fun ls hl => ?_)
  refine lv_iconst (v := (nI 0)) hx hb dX5_fragileBitsOf_37 (by decide) ?_
  refine lv_istore (lv' := [(5, .int (nI 0)), (4, .int (nI 0)), (3, .int (zI ((scS σ (σ 8)) - (ptS σ j)))), (2, .int (nI (zcw (σ 8) j))), (0, .ref (A 0)), (1, .int (nI j))]) hx hb dX5_fragileBitsOf_38 hl (by decide) rfl (fun ls hl => ?_)
  have L40 : ∀ (n9 : Nat) (i : Nat) (hi : i ≤ σ 2), σ 2 - i < n9 → ∀ ls : Array Slot, lv_has ls 10 [(5, .int (nI i)), (4, .int (nI (cnt (frbP σ j) i))), (3, .int (zI ((scS σ (σ 8)) - (ptS σ j)))), (2, .int (nI (zcw (σ 8) j))), (0, .ref (A 0)), (1, .int (nI j))] → W p l e R s m args below meth c s.heap [] 0 0 Q (F0 m 40 ls []) := by
    intro n9
    induction n9 with
    | zero => intro i hi hn9; exact absurd hn9 (Nat.not_lt_zero _)
    | succ n9 ih9 =>
      have ih40 := ih9
      clear ih9
      intro i hi hn9 ls hl
      have hcn := cnt_le (frbP σ j) i
      refine lv_iload hx hb dX5_fragileBitsOf_40 (lv_at hl 0 rfl) ?_
      refine lv_aload_n hx hb dX5_fragileBitsOf_42 rfl (lv_at hl 4 rfl) ?_
      refine va_get (D := D) (ci := 5) (v := .ref (A 1)) (C := RX5) (T := TX5) (N := 7) hx hb hts qX5_fragileBitsOf_inX5 hown hK hP 0 rfl rfl 0 (by decide) (hts _ qX5_fragileBitsOf_Cond_fieldLink_RX5_10_NestedCodes_state_LNestedCodes_State_) (fun _ h9 => h9) rfl dX5_fragileBitsOf_43 ?_
      refine va_getN (D := D) (ci := 4) (v := .int (nI (σ 2))) (C := RX4) (T := TX4) (N := 7) hx hb hts qX5_fragileBitsOf_inX4 hown hK hP 1 rfl rfl 2 (by decide) (kN_X5_72 hN) (fun _ h9 => h9) rfl dX5_fragileBitsOf_46 ?_
      refine zn_icmp_ge (tgt := 135)  hx hb dX5_fragileBitsOf_49 (by decide) (by omega) (by omega) (fun c49 => ?_) (fun c49 => ?_)
      · obtain rfl : i = σ 2 := by omega
        refine lv_iload hx hb dX5_fragileBitsOf_135 (lv_at hl 1 rfl) ?_
        exact zr_i hx hb hr hlk hQ dX5_fragileBitsOf_137 (rfl)
      · have hpi : 2 ^ i ≤ 2 ^ 10 := Nat.pow_le_pow_right (by decide) (by omega)
        refine lv_aload_n hx hb dX5_fragileBitsOf_52 rfl (lv_at hl 4 rfl) ?_
        refine va_get (D := D) (ci := 5) (v := .ref (A 1)) (C := RX5) (T := TX5) (N := 7) hx hb hts qX5_fragileBitsOf_inX5 hown hK hP 0 rfl rfl 0 (by decide) (hts _ qX5_fragileBitsOf_Cond_fieldLink_RX5_10_NestedCodes_state_LNestedCodes_State_) (fun _ h9 => h9) rfl dX5_fragileBitsOf_53 ?_
        refine va_getN (D := D) (ci := 4) (v := .ref (A 3)) (C := RX4) (T := TX4) (N := 7) hx hb hts qX5_fragileBitsOf_inX4 hown hK hP 1 rfl rfl 4 (by decide) (kN_X5_128 hN) (fun _ h9 => h9) rfl dX5_fragileBitsOf_56 ?_
        refine lv_iload_n hx hb dX5_fragileBitsOf_59 rfl (lv_at hl 5 rfl) ?_
        refine za_i hx hb hK hP 3 (f := fun k9 => nI (σ (9 + k9))) (v := (nI (σ (9 + j)))) rfl (by omega) (by decide) dX5_fragileBitsOf_60 (rfl) ?_
        refine lv_iconst (v := (nI 1)) hx hb dX5_fragileBitsOf_61 (by decide) ?_
        refine lv_iload hx hb dX5_fragileBitsOf_62 (lv_at hl 0 rfl) ?_
        refine zv_ishl hx hb (v := (nI (2 ^ i))) dX5_fragileBitsOf_64 (by rw [zShl (by omega) (by omega), Nat.one_mul]) ?_
        refine zv_ixor hx hb (v := (nI ((σ (9 + j)) ^^^ (2 ^ i)))) dX5_fragileBitsOf_65 (nx_xor _ _) ?_
        have hwb2 : σ (9 + j) ^^^ 2 ^ i < 2 ^ σ 2 := Nat.xor_lt_two_pow (wl j (by omega)) (Nat.pow_lt_pow_right (by decide) (by omega))
        have hwb : (σ (9 + j) ^^^ 2 ^ i) < 1024 := by omega
        refine lv_istore (lv' := [(6, .int (nI ((σ (9 + j)) ^^^ (2 ^ i)))), (5, .int (nI i)), (4, .int (nI (cnt (frbP σ j) i))), (3, .int (zI ((scS σ (σ 8)) - (ptS σ j)))), (2, .int (nI (zcw (σ 8) j))), (0, .ref (A 0)), (1, .int (nI j))]) hx hb dX5_fragileBitsOf_66 hl (by decide) rfl (fun ls hl => ?_)
        refine lv_aload_n hx hb dX5_fragileBitsOf_68 rfl (lv_at hl 5 rfl) ?_
        refine va_get (D := D) (ci := 5) (v := .ref (A 7)) (C := RX5) (T := TX5) (N := 7) hx hb hts qX5_fragileBitsOf_inX5 hown hK hP 0 rfl rfl 2 (by decide) (hts _ qX5_fragileBitsOf_Cond_fieldLink_RX5_26_NestedCodes_inner_LNestedCodes_InnerCode_) (fun _ h9 => h9) rfl dX5_fragileBitsOf_69 ?_
        refine lv_iload hx hb dX5_fragileBitsOf_72 (lv_at hl 0 rfl) ?_
        refine zc_r (va_runVN (C := RX1) (As := [.int (nI ((σ (9 + j)) ^^^ (2 ^ i)))]) (rest := []) ⟨hx, hb, hml, hown, hts⟩ (c_X1_symbolOf l D Y A B σ hn h (wdS σ) (ddS σ) r0 r1 r2 r3 r4 (σ 0) (pak (itC (wdS σ) σ) (σ 0)) (mkP (fun k9 => decide (k9 < σ 0))) wt wn ((σ (9 + j)) ^^^ (2 ^ i)) hwb (fun j _ => zwd_1024 kσ j)) ⟨(va_cnB 1 hts gX5_fragileBitsOf_X1_symbolOf_n227 rfl rfl rfl (kM_X5_227 hN) (hts _ qX5_fragileBitsOf_Cond_initialized_RX1) (by decide +kernel) (by rw [hR]; exact ⟨Nat.le_of_ble_eq_true rfl, Nat.le_of_ble_eq_true rfl⟩)), (hts _ qX5_fragileBitsOf_Cond_instanceMethod_yX1_symbolOf), (hts _ qX5_fragileBitsOf_Cond_selects_RX1_yX1_symbolOf_yX1_symbolOf)⟩ ⟨zB_blind, va_recv hK hP (ci := 1) (q0 := 7) rfl rfl, zp_r hP hK hN⟩ rfl rfl hl.1 rfl (lv_room (Nat.le_of_ble_eq_true rfl)) dX5_fragileBitsOf_74 ⟨Nat.zero_le _, Nat.zero_le _⟩).run ?_
        have hs74 := sym_le (wdS σ) ((σ (9 + j)) ^^^ (2 ^ i)) 15
        have hsy : syS σ (σ (9 + j) ^^^ 2 ^ i) < 16 := by have := sym_le (wdS σ) (σ (9 + j) ^^^ 2 ^ i) 15; exact Nat.lt_of_le_of_lt this (by decide)
        have hpw := ptW_b σ j (σ (9 + j) ^^^ 2 ^ i)
        refine zt_i (v := (nI (syS σ (σ (9 + j) ^^^ 2 ^ i)))) (rfl) ?_
        refine lv_istore (lv' := [(7, .int (nI (syS σ (σ (9 + j) ^^^ 2 ^ i)))), (6, .int (nI ((σ (9 + j)) ^^^ (2 ^ i)))), (5, .int (nI i)), (4, .int (nI (cnt (frbP σ j) i))), (3, .int (zI ((scS σ (σ 8)) - (ptS σ j)))), (2, .int (nI (zcw (σ 8) j))), (0, .ref (A 0)), (1, .int (nI j))]) hx hb dX5_fragileBitsOf_77 hl (by decide) rfl (fun ls hl => ?_)
        refine lv_aload_n hx hb dX5_fragileBitsOf_79 rfl (lv_at hl 6 rfl) ?_
        refine va_get (D := D) (ci := 5) (v := .ref (A 7)) (C := RX5) (T := TX5) (N := 7) hx hb hts qX5_fragileBitsOf_inX5 hown hK hP 0 rfl rfl 2 (by decide) (hts _ qX5_fragileBitsOf_Cond_fieldLink_RX5_26_NestedCodes_inner_LNestedCodes_InnerCode_) (fun _ h9 => h9) rfl dX5_fragileBitsOf_80 ?_
        refine lv_aload_n hx hb dX5_fragileBitsOf_83 rfl (lv_at hl 6 rfl) ?_
        refine va_get (D := D) (ci := 5) (v := .ref (A 7)) (C := RX5) (T := TX5) (N := 7) hx hb hts qX5_fragileBitsOf_inX5 hown hK hP 0 rfl rfl 2 (by decide) (hts _ qX5_fragileBitsOf_Cond_fieldLink_RX5_26_NestedCodes_inner_LNestedCodes_InnerCode_) (fun _ h9 => h9) rfl dX5_fragileBitsOf_84 ?_
        refine lv_iload hx hb dX5_fragileBitsOf_87 (lv_at hl 1 rfl) ?_
        refine lv_iload hx hb dX5_fragileBitsOf_89 (lv_at hl 0 rfl) ?_
        refine zc_r (va_runVN (C := RX1) (As := [.int (nI ((σ (9 + j)) ^^^ (2 ^ i))), .int (nI (syS σ (σ (9 + j) ^^^ 2 ^ i)))]) (rest := [.ref (A 7)]) ⟨hx, hb, hml, hown, hts⟩ (c_X1_bitsBetween l D Y A B σ hn h (wdS σ) (ddS σ) r0 r1 r2 r3 r4 (σ 0) (pak (itC (wdS σ) σ) (σ 0)) (mkP (fun k9 => decide (k9 < σ 0))) wt wn ((σ (9 + j)) ^^^ (2 ^ i)) (syS σ (σ (9 + j) ^^^ 2 ^ i)) hwb hsy (fun j _ => zwd_1024 kσ j)) ⟨(va_cnB 2 hts gX5_fragileBitsOf_X1_bitsBetween_n230 rfl rfl rfl (kM_X5_230 hN) (hts _ qX5_fragileBitsOf_Cond_initialized_RX1) (by decide +kernel) (by rw [hR]; exact ⟨Nat.le_of_ble_eq_true rfl, Nat.le_of_ble_eq_true rfl⟩)), (hts _ qX5_fragileBitsOf_Cond_instanceMethod_yX1_bitsBetween), (hts _ qX5_fragileBitsOf_Cond_selects_RX1_yX1_bitsBetween_yX1_bitsBetween)⟩ ⟨zB_blind, va_recv hK hP (ci := 1) (q0 := 7) rfl rfl, zp_r hP hK hN⟩ rfl rfl hl.1 rfl (lv_room (Nat.le_of_ble_eq_true rfl)) dX5_fragileBitsOf_91 ⟨Nat.zero_le _, Nat.zero_le _⟩).run ?_
        have hp91 := popc_le (((σ (9 + j)) ^^^ (2 ^ i)) ^^^ (wdS σ) (syS σ (σ (9 + j) ^^^ 2 ^ i)))
        refine zc_r (va_runVN (C := RX1) (As := [.int (nI (popc (((σ (9 + j)) ^^^ (2 ^ i)) ^^^ (wdS σ) (syS σ (σ (9 + j) ^^^ 2 ^ i)))))]) (rest := []) ⟨hx, hb, hml, hown, hts⟩ (c_X1_reliability l D Y A B σ hn h (wdS σ) (ddS σ) r0 r1 r2 r3 r4 (σ 0) (pak (itC (wdS σ) σ) (σ 0)) (mkP (fun k9 => decide (k9 < σ 0))) wt wn (popc (((σ (9 + j)) ^^^ (2 ^ i)) ^^^ (wdS σ) (syS σ (σ (9 + j) ^^^ 2 ^ i)))) (by omega) (Nat.le_trans (dd_le σ) (by decide))) ⟨(va_cnB 1 hts gX5_fragileBitsOf_X1_reliability_n233 rfl rfl rfl (kM_X5_233 hN) (hts _ qX5_fragileBitsOf_Cond_initialized_RX1) (by decide +kernel) (by rw [hR]; exact ⟨Nat.le_of_ble_eq_true rfl, Nat.le_of_ble_eq_true rfl⟩)), (hts _ qX5_fragileBitsOf_Cond_instanceMethod_yX1_reliability), (hts _ qX5_fragileBitsOf_Cond_selects_RX1_yX1_reliability_yX1_reliability)⟩ ⟨zB_blind, va_recv hK hP (ci := 1) (q0 := 7) rfl rfl, zp_r hP hK hN⟩ rfl rfl hl.1 rfl (lv_room (Nat.le_of_ble_eq_true rfl)) dX5_fragileBitsOf_94 ⟨Nat.zero_le _, Nat.zero_le _⟩).run ?_
        refine zt_i (v := (nI (relS σ (σ (9 + j) ^^^ 2 ^ i)))) (rfl) ?_
        refine lv_istore (lv' := [(8, .int (nI (relS σ (σ (9 + j) ^^^ 2 ^ i)))), (7, .int (nI (syS σ (σ (9 + j) ^^^ 2 ^ i)))), (6, .int (nI ((σ (9 + j)) ^^^ (2 ^ i)))), (5, .int (nI i)), (4, .int (nI (cnt (frbP σ j) i))), (3, .int (zI ((scS σ (σ 8)) - (ptS σ j)))), (2, .int (nI (zcw (σ 8) j))), (0, .ref (A 0)), (1, .int (nI j))]) hx hb dX5_fragileBitsOf_97 hl (by decide) rfl (fun ls hl => ?_)
        have hrl : relS σ (σ (9 + j) ^^^ 2 ^ i) ≤ 10 := Nat.le_trans (Nat.sub_le _ _) (dd_le σ)
        have hzc : zcw (σ 8) j < 16 := zcw_lt (by omega) (by omega)
        refine lv_iload hx hb dX5_fragileBitsOf_99 (lv_at hl 1 rfl) ?_
        refine lv_iload_n hx hb dX5_fragileBitsOf_101 rfl (lv_at hl 6 rfl) ?_
        have J113 : W p l e R s m args below meth c s.heap [] 0 0 Q (F0 m 113 ls [.int (zI (ptW σ j (σ (9 + j) ^^^ 2 ^ i)))]) := by
          refine lv_istore (lv' := [(9, .int (zI (ptW σ j (σ (9 + j) ^^^ 2 ^ i)))), (8, .int (nI (relS σ (σ (9 + j) ^^^ 2 ^ i)))), (7, .int (nI (syS σ (σ (9 + j) ^^^ 2 ^ i)))), (6, .int (nI ((σ (9 + j)) ^^^ (2 ^ i)))), (5, .int (nI i)), (4, .int (nI (cnt (frbP σ j) i))), (3, .int (zI ((scS σ (σ 8)) - (ptS σ j)))), (2, .int (nI (zcw (σ 8) j))), (0, .ref (A 0)), (1, .int (nI j))]) hx hb dX5_fragileBitsOf_113 hl (by decide) rfl (fun ls hl => ?_)
          refine lv_iload_n hx hb dX5_fragileBitsOf_115 rfl (lv_at hl 6 rfl) ?_
          refine lv_iload hx hb dX5_fragileBitsOf_116 (lv_at hl 0 rfl) ?_
          refine zv_iadd hx hb (v := (zI (((scS σ (σ 8)) - (ptS σ j)) + (ptW σ j (σ (9 + j) ^^^ 2 ^ i))))) dX5_fragileBitsOf_118 (by exact zI_add _ _) ?_
          refine lv_aload_n hx hb dX5_fragileBitsOf_119 rfl (lv_at hl 8 rfl) ?_
          refine zc_r (va_runV (As := []) (rest := [.int (zI (((scS σ (σ 8)) - (ptS σ j)) + (ptW σ j (σ (9 + j) ^^^ 2 ^ i))))]) ⟨hx, hb, hml, hown, hts⟩ (c_X5_lawBound l D Y A B σ hn h (wdS σ) (ddS σ) r0 r1 r2 r3 r4 (σ 0) (pak (itC (wdS σ) σ) (σ 0)) (mkP (fun k9 => decide (k9 < σ 0))) wt wn  kσ (Nat.le_trans (dd_le σ) (by decide))) (cwV 0 hts gX5_fragileBitsOf_X5_lawBound rfl rfl rfl (by decide +kernel) (by rw [hR]; exact ⟨Nat.le_of_ble_eq_true rfl, Nat.le_of_ble_eq_true rfl⟩)) ⟨zB_blind, va_recv hK hP (ci := 5) (q0 := 0) rfl rfl, zp_r hP hK hN⟩ rfl rfl hl.1 rfl (lv_room (Nat.le_of_ble_eq_true rfl)) dX5_fragileBitsOf_120 ⟨Nat.zero_le _, Nat.zero_le _⟩).run ?_
          refine zt_i (v := (nI (barS σ))) (rfl) ?_
          refine zz_icmp_gt (tgt := 129) (a := ((scS σ (σ 8)) - (ptS σ j)) + (ptW σ j (σ (9 + j) ^^^ 2 ^ i))) (b := (((barS σ : Nat)) : Int)) hx hb dX5_fragileBitsOf_123 (by decide) (zI_toInt (by omega) (by omega)) (zt_n (by omega)) (fun c123 => ?_) (fun c123 => ?_)
          · refine lv_iinc (v := (nI (i + 1))) (lv' := [(5, .int (nI (i + 1))), (9, .int (zI (ptW σ j (σ (9 + j) ^^^ 2 ^ i)))), (8, .int (nI (relS σ (σ (9 + j) ^^^ 2 ^ i)))), (7, .int (nI (syS σ (σ (9 + j) ^^^ 2 ^ i)))), (6, .int (nI ((σ (9 + j)) ^^^ (2 ^ i)))), (4, .int (nI (cnt (frbP σ j) i))), (3, .int (zI ((scS σ (σ 8)) - (ptS σ j)))), (2, .int (nI (zcw (σ 8) j))), (0, .ref (A 0)), (1, .int (nI j))]) hx hb dX5_fragileBitsOf_129 hl (k := 4) rfl (zinc _) (by decide) rfl (fun ls hl => ?_)
            refine lv_goto (tgt := 40) hx hb dX5_fragileBitsOf_132 (by decide) ?_
            rw [show (.int (nI (cnt (frbP σ j) i)) : Value) = .int (nI (cnt (frbP σ j) (i + 1))) from congrArg _ (congrArg nI (show _ = cnt (frbP σ j) i + b01 (frbP σ j i) from by rw [show frbP σ j i = false from decide_eq_false (by omega)]; rfl))] at hl
            exact ih40 (i + 1) (by omega) (by omega) ls (lv_sub hl [0, 5, 6, 7, 8, 9] rfl)
          · refine lv_iinc (v := (nI (cnt (frbP σ j) i + 1))) (lv' := [(4, .int (nI (cnt (frbP σ j) i + 1))), (9, .int (zI (ptW σ j (σ (9 + j) ^^^ 2 ^ i)))), (8, .int (nI (relS σ (σ (9 + j) ^^^ 2 ^ i)))), (7, .int (nI (syS σ (σ (9 + j) ^^^ 2 ^ i)))), (6, .int (nI ((σ (9 + j)) ^^^ (2 ^ i)))), (5, .int (nI i)), (3, .int (zI ((scS σ (σ 8)) - (ptS σ j)))), (2, .int (nI (zcw (σ 8) j))), (0, .ref (A 0)), (1, .int (nI j))]) hx hb dX5_fragileBitsOf_126 hl (k := 5) rfl (zinc _) (by decide) rfl (fun ls hl => ?_)
            refine lv_iinc (v := (nI (i + 1))) (lv' := [(5, .int (nI (i + 1))), (4, .int (nI (cnt (frbP σ j) i + 1))), (9, .int (zI (ptW σ j (σ (9 + j) ^^^ 2 ^ i)))), (8, .int (nI (relS σ (σ (9 + j) ^^^ 2 ^ i)))), (7, .int (nI (syS σ (σ (9 + j) ^^^ 2 ^ i)))), (6, .int (nI ((σ (9 + j)) ^^^ (2 ^ i)))), (3, .int (zI ((scS σ (σ 8)) - (ptS σ j)))), (2, .int (nI (zcw (σ 8) j))), (0, .ref (A 0)), (1, .int (nI j))]) hx hb dX5_fragileBitsOf_129 hl (k := 5) rfl (zinc _) (by decide) rfl (fun ls hl => ?_)
            refine lv_goto (tgt := 40) hx hb dX5_fragileBitsOf_132 (by decide) ?_
            rw [show (.int (nI (cnt (frbP σ j) i + 1)) : Value) = .int (nI (cnt (frbP σ j) (i + 1))) from congrArg _ (congrArg nI (show _ = cnt (frbP σ j) i + b01 (frbP σ j i) from by rw [show frbP σ j i = true from decide_eq_true (by omega)]; rfl))] at hl
            exact ih40 (i + 1) (by omega) (by omega) ls (lv_sub hl [0, 1, 6, 7, 8, 9] rfl)
        refine zn_icmp_ne (tgt := 110)  hx hb dX5_fragileBitsOf_102 (by decide) (by omega) (by omega) (fun c102 => ?_) (fun c102 => ?_)
        · refine lv_iload hx hb dX5_fragileBitsOf_110 (lv_at hl 0 rfl) ?_
          refine zv_ineg hx hb (v := (zI (-((relS σ (σ (9 + j) ^^^ 2 ^ i) : Nat) : Int)))) dX5_fragileBitsOf_112 (by rw [zI_nat]; exact zI_neg _) ?_
          refine zt_i (v := (zI (ptW σ j (σ (9 + j) ^^^ 2 ^ i)))) (by first | (rw [zI_nat]; exact congrArg zI (if_pos (by omega)).symm) | exact congrArg zI (if_neg (by omega)).symm) ?_
          exact J113
        · refine lv_iload hx hb dX5_fragileBitsOf_105 (lv_at hl 0 rfl) ?_
          refine lv_goto (tgt := 113) hx hb dX5_fragileBitsOf_107 (by decide) ?_
          refine zt_i (v := (zI (ptW σ j (σ (9 + j) ^^^ 2 ^ i)))) (by first | (rw [zI_nat]; exact congrArg zI (if_pos (by omega)).symm) | exact congrArg zI (if_neg (by omega)).symm) ?_
          exact J113
  exact L40 (σ 2 - 0 + 1) 0 (by omega) (Nat.lt_succ_self _) ls (lv_sub hl [0, 1, 2, 3, 4, 5] rfl)
theorem qX5_nearestMessage_Cond_fieldLink_RX5_33_NestedCodes_outer_LNestedCodes_OuterCode_ : Cond.fieldLink RX5 33 "NestedCodes" "outer" "LNestedCodes$OuterCode;" ∈ wsX5_nearestMessage := by decide +kernel
theorem qX5_nearestMessage_inX5 : ∀ w ∈ wsX50, w ∈ wsX5_nearestMessage := by decide +kernel
theorem qX5_nearestMessage_Cond_initialized_RX2 : Cond.initialized RX2 ∈ wsX5_nearestMessage := by decide +kernel
theorem qX5_nearestMessage_Cond_instanceMethod_yX2_codeword : Cond.instanceMethod yX2_codeword ∈ wsX5_nearestMessage := by decide +kernel
theorem qX5_nearestMessage_Cond_selects_RX2_yX2_codeword_yX2_codeword : Cond.selects RX2 yX2_codeword yX2_codeword ∈ wsX5_nearestMessage := by decide +kernel
theorem qX5_nearestMessage_Cond_fieldLink_RX5_10_NestedCodes_state_LNestedCodes_State_ : Cond.fieldLink RX5 10 "NestedCodes" "state" "LNestedCodes$State;" ∈ wsX5_nearestMessage := by decide +kernel
theorem qX5_nearestMessage_Cond_initialized_RX4 : Cond.initialized RX4 ∈ wsX5_nearestMessage := by decide +kernel
theorem qX5_nearestMessage_Cond_instanceMethod_yX4_messages : Cond.instanceMethod yX4_messages ∈ wsX5_nearestMessage := by decide +kernel
theorem qX5_nearestMessage_Cond_selects_RX4_yX4_messages_yX4_messages : Cond.selects RX4 yX4_messages yX4_messages ∈ wsX5_nearestMessage := by decide +kernel
theorem qX5_nearestMessage_Cond_static_yX2_markSymbols : Cond.static yX2_markSymbols ∈ wsX5_nearestMessage := by decide +kernel
theorem qX5_nearestMessage_inX4 : ∀ w ∈ wsX40, w ∈ wsX5_nearestMessage := by decide +kernel
theorem qX5_nearestMessage_Cond_static_yX2_marks : Cond.static yX2_marks ∈ wsX5_nearestMessage := by decide +kernel
theorem qX5_nearestMessage_Cond_instanceMethod_yX4_outerDistance : Cond.instanceMethod yX4_outerDistance ∈ wsX5_nearestMessage := by decide +kernel
theorem qX5_nearestMessage_Cond_selects_RX4_yX4_outerDistance_yX4_outerDistance : Cond.selects RX4 yX4_outerDistance yX4_outerDistance ∈ wsX5_nearestMessage := by decide +kernel
set_option maxHeartbeats 4000000 in
set_option maxRecDepth 100000 in
theorem c_X5_nearestMessage (l : Launch) (D : va_G) (Y : Nat → ClassId) (A : Nat → Nat) (B : Nat → Nat) (σ : Nat → Nat) (hn : Nat) (h : Nat → Nat → Nat) (wd : Nat → Nat) (dd : Nat) (r0 : Nat → Nat) (r1 : Nat → Nat) (r2 : Nat → Nat) (r3 : Nat → Nat) (r4 : Nat → Nat) (rl : Nat) (rp : Nat) (rb : Nat) (wt : Nat → Nat) (wn : Nat) (m9 : Nat)  (kσ : zWF σ) (hm : m9 < 4096) : Met l yX5_nearestMessage wsX5_nearestMessage ({ frames := 1, cells := 0, slots := 0, locals := 23 } : Room) (va_Pc [.ref (A 0), .int (nI m9)] (zB D Y (CX Y A B σ hn h wd dd r0 r1 r2 r3 r4 rl rp rb wt wn))) (zR (.int (orI (nMs σ) (zfst (neB σ m9) (nMs σ)) (-1004)))) 0 0 (fun _ => False) := by
  refine zr_of (cc := cX5_nearestMessage) (maxL := 9) (ret := (some .int)) (by decide) rfl (Nat.le_of_ble_eq_true rfl) ?_
  intro p e s m below meth c R args Q hR hx hb hml hr hlk hown hts hK hN hP hQ ls hl
  have hown : s.vm.findClass RX5 = some m.cls := hown
  have hl : lv_has ls 9 [(0, .ref (A 0)), (1, .int (nI m9))] := hl
  have kw := kσ
  obtain ⟨n3, n12, d1, d3, dn, b4, b10, gl, lm, sn, wl, wnz⟩ := kw
  have pb := zp_b b10
  have pk9 := zp_k d3
  refine lv_aload_n hx hb dX5_nearestMessage_0 rfl (lv_at hl 0 rfl) ?_
  refine va_get (D := D) (ci := 5) (v := .ref (A 9)) (C := RX5) (T := TX5) (N := 7) hx hb hts qX5_nearestMessage_inX5 hown hK hP 0 rfl rfl 3 (by decide) (hts _ qX5_nearestMessage_Cond_fieldLink_RX5_33_NestedCodes_outer_LNestedCodes_OuterCode_) (fun _ h9 => h9) rfl dX5_nearestMessage_1 ?_
  refine lv_iload_n hx hb dX5_nearestMessage_4 rfl (lv_at hl 1 rfl) ?_
  refine zc_r (va_runVN (C := RX2) (As := [.int (nI m9)]) (rest := []) ⟨hx, hb, hml, hown, hts⟩ (c_X2_codeword l D Y A B σ hn h wd dd r0 r1 r2 r3 r4 rl rp rb wt wn m9 (by omega)) ⟨(va_cnB 1 hts gX5_nearestMessage_X2_codeword_n114 rfl rfl rfl (kM_X5_114 hN) (hts _ qX5_nearestMessage_Cond_initialized_RX2) (by decide +kernel) (by rw [hR]; exact ⟨Nat.le_of_ble_eq_true rfl, Nat.le_of_ble_eq_true rfl⟩)), (hts _ qX5_nearestMessage_Cond_instanceMethod_yX2_codeword), (hts _ qX5_nearestMessage_Cond_selects_RX2_yX2_codeword_yX2_codeword)⟩ ⟨zB_blind, va_recv hK hP (ci := 2) (q0 := 9) rfl rfl, zp_r hP hK hN⟩ rfl rfl hl.1 rfl (lv_room (Nat.le_of_ble_eq_true rfl)) dX5_nearestMessage_5 ⟨Nat.zero_le _, Nat.zero_le _⟩).run ?_
  refine lv_lstore_n (lv' := [(2, .long (lN (zcwP m9))), (0, .ref (A 0)), (1, .int (nI m9))]) hx hb dX5_nearestMessage_8 rfl hl (by decide) rfl (fun ls hl => ?_)
  refine lv_aload_n hx hb dX5_nearestMessage_9 rfl (lv_at hl 1 rfl) ?_
  refine va_get (D := D) (ci := 5) (v := .ref (A 1)) (C := RX5) (T := TX5) (N := 7) hx hb hts qX5_nearestMessage_inX5 hown hK hP 0 rfl rfl 0 (by decide) (hts _ qX5_nearestMessage_Cond_fieldLink_RX5_10_NestedCodes_state_LNestedCodes_State_) (fun _ h9 => h9) rfl dX5_nearestMessage_10 ?_
  refine zc_r (va_runVN (C := RX4) (As := []) (rest := []) ⟨hx, hb, hml, hown, hts⟩ (c_X4_messages l D Y A B σ hn h wd dd r0 r1 r2 r3 r4 rl rp rb wt wn  kσ) ⟨(va_cnB 0 hts gX5_nearestMessage_X4_messages_n176 rfl rfl rfl (kM_X5_176 hN) (hts _ qX5_nearestMessage_Cond_initialized_RX4) (by decide +kernel) (by rw [hR]; exact ⟨Nat.le_of_ble_eq_true rfl, Nat.le_of_ble_eq_true rfl⟩)), (hts _ qX5_nearestMessage_Cond_instanceMethod_yX4_messages), (hts _ qX5_nearestMessage_Cond_selects_RX4_yX4_messages_yX4_messages)⟩ ⟨zB_blind, va_recv hK hP (ci := 4) (q0 := 1) rfl rfl, zp_r hP hK hN⟩ rfl rfl hl.1 rfl (lv_room (Nat.le_of_ble_eq_true rfl)) dX5_nearestMessage_13 ⟨Nat.zero_le _, Nat.zero_le _⟩).run ?_
  refine lv_istore (lv' := [(4, .int (nI (2 ^ (4 * σ 1)))), (2, .long (lN (zcwP m9))), (0, .ref (A 0)), (1, .int (nI m9))]) hx hb dX5_nearestMessage_16 hl (by decide) rfl (fun ls hl => ?_)
  refine lv_iconst (v := (nI 0)) hx hb dX5_nearestMessage_18 (by decide) ?_
  refine lv_istore (lv' := [(5, .int (nI 0)), (4, .int (nI (2 ^ (4 * σ 1)))), (2, .long (lN (zcwP m9))), (0, .ref (A 0)), (1, .int (nI m9))]) hx hb dX5_nearestMessage_19 hl (by decide) rfl (fun ls hl => ?_)
  have L21 : ∀ (n9 : Nat) (i : Nat) (hi : i ≤ 2 ^ (4 * σ 1)) (hno : ∀ j, j < i → neB σ m9 j = false), 2 ^ (4 * σ 1) - i < n9 → ∀ ls : Array Slot, lv_has ls 9 [(5, .int (nI i)), (4, .int (nI (2 ^ (4 * σ 1)))), (2, .long (lN (zcwP m9))), (0, .ref (A 0)), (1, .int (nI m9))] → W p l e R s m args below meth c s.heap [] 0 0 Q (F0 m 21 ls []) := by
    intro n9
    induction n9 with
    | zero => intro i hi hno hn9; exact absurd hn9 (Nat.not_lt_zero _)
    | succ n9 ih9 =>
      have ih21 := ih9
      clear ih9
      intro i hi hno hn9 ls hl
      refine lv_iload hx hb dX5_nearestMessage_21 (lv_at hl 0 rfl) ?_
      refine lv_iload hx hb dX5_nearestMessage_23 (lv_at hl 1 rfl) ?_
      refine zn_icmp_ge (tgt := 83)  hx hb dX5_nearestMessage_25 (by decide) (by omega) (by omega) (fun c25 => ?_) (fun c25 => ?_)
      · obtain rfl : i = 2 ^ (4 * σ 1) := by omega
        refine lv_sipush (v := (-1004)) hx hb dX5_nearestMessage_83 (by decide) ?_
        exact zr_i hx hb hr hlk hQ dX5_nearestMessage_86 (by rw [show zfst (neB σ m9) (nMs σ) = nMs σ from zfst_no hno]; exact (if_neg (Nat.lt_irrefl _)).symm)
      · refine lv_lload_n hx hb dX5_nearestMessage_28 rfl (lv_at hl 2 rfl) ?_
        refine lv_aload_n hx hb dX5_nearestMessage_29 rfl (lv_at hl 3 rfl) ?_
        refine va_get (D := D) (ci := 5) (v := .ref (A 9)) (C := RX5) (T := TX5) (N := 7) hx hb hts qX5_nearestMessage_inX5 hown hK hP 0 rfl rfl 3 (by decide) (hts _ qX5_nearestMessage_Cond_fieldLink_RX5_33_NestedCodes_outer_LNestedCodes_OuterCode_) (fun _ h9 => h9) rfl dX5_nearestMessage_30 ?_
        refine lv_iload hx hb dX5_nearestMessage_33 (lv_at hl 0 rfl) ?_
        refine zc_r (va_runVN (C := RX2) (As := [.int (nI i)]) (rest := [.long (lN (zcwP m9))]) ⟨hx, hb, hml, hown, hts⟩ (c_X2_codeword l D Y A B σ hn h wd dd r0 r1 r2 r3 r4 rl rp rb wt wn i (by omega)) ⟨(va_cnB 1 hts gX5_nearestMessage_X2_codeword_n114 rfl rfl rfl (kM_X5_114 hN) (hts _ qX5_nearestMessage_Cond_initialized_RX2) (by decide +kernel) (by rw [hR]; exact ⟨Nat.le_of_ble_eq_true rfl, Nat.le_of_ble_eq_true rfl⟩)), (hts _ qX5_nearestMessage_Cond_instanceMethod_yX2_codeword), (hts _ qX5_nearestMessage_Cond_selects_RX2_yX2_codeword_yX2_codeword)⟩ ⟨zB_blind, va_recv hK hP (ci := 2) (q0 := 9) rfl rfl, zp_r hP hK hN⟩ rfl rfl hl.1 rfl (lv_room (Nat.le_of_ble_eq_true rfl)) dX5_nearestMessage_35 ⟨Nat.zero_le _, Nat.zero_le _⟩).run ?_
        refine zv_lxor hx hb (v := (lN ((zcwP m9) ^^^ (zcwP i)))) dX5_nearestMessage_38 (fb_xorL _ _) ?_
        refine zc_r (va_runSN (As := [.long (lN ((zcwP m9) ^^^ (zcwP i)))]) (rest := []) ⟨hx, hb, hml, hown, hts⟩ (c_X2_markSymbols l D Y  ((zcwP m9) ^^^ (zcwP i)) (Nat.lt_trans (Nat.xor_lt_two_pow (n := 48) (zcwP_lt hm) (zcwP_lt (by omega))) (by decide))) ⟨(va_cnB 1 hts gX5_nearestMessage_X2_markSymbols_n236 rfl rfl rfl (kM_X5_236 hN) (hts _ qX5_nearestMessage_Cond_initialized_RX2) (by decide +kernel) (by rw [hR]; exact ⟨Nat.le_of_ble_eq_true rfl, Nat.le_of_ble_eq_true rfl⟩)), (hts _ qX5_nearestMessage_Cond_static_yX2_markSymbols), trivial⟩ ⟨zB_blind, (zp_r (v := [.long (lN ((zcwP m9) ^^^ (zcwP i)))]) (fun k q h => absurd h (by simp)) hK hN)⟩ rfl rfl hl.1 rfl (lv_room (Nat.le_of_ble_eq_true rfl)) dX5_nearestMessage_39 ⟨Nat.zero_le _, Nat.zero_le _⟩).run ?_
        refine lv_lstore (lv' := [(6, .long (lN (mkS ((zcwP m9) ^^^ (zcwP i))))), (5, .int (nI i)), (4, .int (nI (2 ^ (4 * σ 1)))), (2, .long (lN (zcwP m9))), (0, .ref (A 0)), (1, .int (nI m9))]) hx hb dX5_nearestMessage_42 hl (by decide) rfl (fun ls hl => ?_)
        refine lv_lload hx hb dX5_nearestMessage_44 (lv_at hl 0 rfl) ?_
        refine lv_aload_n hx hb dX5_nearestMessage_46 rfl (lv_at hl 4 rfl) ?_
        refine va_get (D := D) (ci := 5) (v := .ref (A 1)) (C := RX5) (T := TX5) (N := 7) hx hb hts qX5_nearestMessage_inX5 hown hK hP 0 rfl rfl 0 (by decide) (hts _ qX5_nearestMessage_Cond_fieldLink_RX5_10_NestedCodes_state_LNestedCodes_State_) (fun _ h9 => h9) rfl dX5_nearestMessage_47 ?_
        refine va_getN (D := D) (ci := 4) (v := .int (nI (σ 0))) (C := RX4) (T := TX4) (N := 7) hx hb hts qX5_nearestMessage_inX4 hown hK hP 1 rfl rfl 0 (by decide) (kN_X5_55 hN) (fun _ h9 => h9) rfl dX5_nearestMessage_50 ?_
        refine zc_r (va_runSN (As := [.int (nI (σ 0))]) (rest := [.long (lN (mkS ((zcwP m9) ^^^ (zcwP i))))]) ⟨hx, hb, hml, hown, hts⟩ (c_X2_marks l D Y  (σ 0) (by omega)) ⟨(va_cnB 1 hts gX5_nearestMessage_X2_marks_n239 rfl rfl rfl (kM_X5_239 hN) (hts _ qX5_nearestMessage_Cond_initialized_RX2) (by decide +kernel) (by rw [hR]; exact ⟨Nat.le_of_ble_eq_true rfl, Nat.le_of_ble_eq_true rfl⟩)), (hts _ qX5_nearestMessage_Cond_static_yX2_marks), trivial⟩ ⟨zB_blind, (zp_r (v := [.int (nI (σ 0))]) (fun k q h => absurd h (by simp)) hK hN)⟩ rfl rfl hl.1 rfl (lv_room (Nat.le_of_ble_eq_true rfl)) dX5_nearestMessage_53 ⟨Nat.zero_le _, Nat.zero_le _⟩).run ?_
        refine zv_land hx hb (v := (lN ((mkS ((zcwP m9) ^^^ (zcwP i))) &&& (mkP (fun j => decide (j < (σ 0))))))) dX5_nearestMessage_56 (fb_andL _ _) ?_
        refine zc_r (va_runS (As := [.long (lN ((mkS ((zcwP m9) ^^^ (zcwP i))) &&& (mkP (fun j => decide (j < (σ 0))))))]) (rest := []) ⟨hx, hb, hml, hown, hts⟩ (c_J13_bitCount_95d88 l D Y  ((mkS ((zcwP m9) ^^^ (zcwP i))) &&& (mkP (fun j => decide (j < (σ 0))))) (dcB σ m9 i) (zdifc hm (by omega))) (va_cwS 1 hts gX5_nearestMessage_J13_bitCount_95d88 rfl rfl rfl (by decide +kernel) (by rw [hR]; exact ⟨Nat.le_of_ble_eq_true rfl, Nat.le_of_ble_eq_true rfl⟩)) ⟨zB_blind, (zp_r (v := [.long (lN ((mkS ((zcwP m9) ^^^ (zcwP i))) &&& (mkP (fun j => decide (j < (σ 0))))))]) (fun k q h => absurd h (by simp)) hK hN)⟩ rfl rfl hl.1 rfl (lv_room (Nat.le_of_ble_eq_true rfl)) dX5_nearestMessage_57 ⟨Nat.zero_le _, Nat.zero_le _⟩).run ?_
        have hc57 := cnt_le (dcB σ m9 i) 12
        refine lv_istore (lv' := [(8, .int (nI (cnt (dcB σ m9 i) 12))), (6, .long (lN (mkS ((zcwP m9) ^^^ (zcwP i))))), (5, .int (nI i)), (4, .int (nI (2 ^ (4 * σ 1)))), (2, .long (lN (zcwP m9))), (0, .ref (A 0)), (1, .int (nI m9))]) hx hb dX5_nearestMessage_60 hl (by decide) rfl (fun ls hl => ?_)
        refine lv_iload hx hb dX5_nearestMessage_62 (lv_at hl 0 rfl) ?_
        refine lv_aload_n hx hb dX5_nearestMessage_64 rfl (lv_at hl 5 rfl) ?_
        refine va_get (D := D) (ci := 5) (v := .ref (A 1)) (C := RX5) (T := TX5) (N := 7) hx hb hts qX5_nearestMessage_inX5 hown hK hP 0 rfl rfl 0 (by decide) (hts _ qX5_nearestMessage_Cond_fieldLink_RX5_10_NestedCodes_state_LNestedCodes_State_) (fun _ h9 => h9) rfl dX5_nearestMessage_65 ?_
        refine zc_r (va_runVN (C := RX4) (As := []) (rest := [.int (nI (cnt (dcB σ m9 i) 12))]) ⟨hx, hb, hml, hown, hts⟩ (c_X4_outerDistance l D Y A B σ hn h wd dd r0 r1 r2 r3 r4 rl rp rb wt wn  kσ) ⟨(va_cnB 0 hts gX5_nearestMessage_X4_outerDistance_n87 rfl rfl rfl (kM_X5_87 hN) (hts _ qX5_nearestMessage_Cond_initialized_RX4) (by decide +kernel) (by rw [hR]; exact ⟨Nat.le_of_ble_eq_true rfl, Nat.le_of_ble_eq_true rfl⟩)), (hts _ qX5_nearestMessage_Cond_instanceMethod_yX4_outerDistance), (hts _ qX5_nearestMessage_Cond_selects_RX4_yX4_outerDistance_yX4_outerDistance)⟩ ⟨zB_blind, va_recv hK hP (ci := 4) (q0 := 1) rfl rfl, zp_r hP hK hN⟩ rfl rfl hl.1 rfl (lv_room (Nat.le_of_ble_eq_true rfl)) dX5_nearestMessage_68 ⟨Nat.zero_le _, Nat.zero_le _⟩).run ?_
        refine zn_icmp_ne (tgt := 77)  hx hb dX5_nearestMessage_71 (by decide) (by omega) (by omega) (fun c71 => ?_) (fun c71 => ?_)
        · refine lv_iinc (v := (nI (i + 1))) (lv' := [(5, .int (nI (i + 1))), (8, .int (nI (cnt (dcB σ m9 i) 12))), (6, .long (lN (mkS ((zcwP m9) ^^^ (zcwP i))))), (4, .int (nI (2 ^ (4 * σ 1)))), (2, .long (lN (zcwP m9))), (0, .ref (A 0)), (1, .int (nI m9))]) hx hb dX5_nearestMessage_77 hl (k := 2) rfl (zinc _) (by decide) rfl (fun ls hl => ?_)
          refine lv_goto (tgt := 21) hx hb dX5_nearestMessage_80 (by decide) ?_
          exact ih21 (i + 1) (by omega) (fun j hj => (Nat.lt_or_ge j i).elim (hno j) (fun h9 => by rw [show j = i from by omega]; exact decide_eq_false (by omega))) (by omega) ls (lv_sub hl [0, 3, 4, 5, 6] rfl)
        · refine lv_iload hx hb dX5_nearestMessage_74 (lv_at hl 2 rfl) ?_
          exact zr_i hx hb hr hlk hQ dX5_nearestMessage_76 (by rw [show zfst (neB σ m9) (nMs σ) = i from zfst_at hno (decide_eq_true (by omega)) (show i < 2 ^ (4 * σ 1) by omega)]; exact (if_pos (show i < 2 ^ (4 * σ 1) by omega)).symm)
  exact L21 (2 ^ (4 * σ 1) - 0 + 1) 0 (by omega) (fun j hj => absurd hj (Nat.not_lt_zero j)) (Nat.lt_succ_self _) ls (lv_sub hl [0, 1, 2, 3, 4] rfl)
