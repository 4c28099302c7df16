theorem kM_X0_25 {s : State} (hN : zNw s) : va_Nw (Cond.methodLinkNest RX0 25 yX4_copyFrom "NestedCodes") s := show va_Nw (Cond.methodLinkNest RX0 25 yX4_copyFrom "NestedCodes") s from hN.2 ("NestedCodes$History", 25, yX4_copyFrom, "NestedCodes") (by decide +kernel)
theorem qX4_shiftedRound_Cond_fieldLink_RX4_18_NestedCodes_State_bits_I_ : Cond.fieldLink RX4 18 "NestedCodes$State" "bits" "I" ∈ wsX4_shiftedRound := by decide +kernel
theorem qX4_shiftedRound_inX4 : ∀ w ∈ wsX40, w ∈ wsX4_shiftedRound := by decide +kernel
set_option maxHeartbeats 4000000 in
set_option maxRecDepth 100000 in
theorem c_X4_shiftedRound (l : Launch) (D : va_G) (Y : Nat → ClassId) (A : Nat → Nat) (B : Nat → Nat) (σ : Nat → Nat) (hn : Nat) (h : Nat → Nat → Nat) (wd : Nat → Nat) (dd : Nat) (r0 : Nat → Nat) (r1 : Nat → Nat) (r2 : Nat → Nat) (r3 : Nat → Nat) (r4 : Nat → Nat) (rl : Nat) (rp : Nat) (rb : Nat) (wt : Nat → Nat) (wn : Nat) (w : Nat)  (hw : w < 2 ^ σ 2) (kσ : zWF σ) : Met l yX4_shiftedRound wsX4_shiftedRound ({ frames := 1, cells := 0, slots := 0, locals := 20 } : Room) (va_Pc [.ref (A 1), .int (nI w)] (zB D Y (CX Y A B σ hn h wd dd r0 r1 r2 r3 r4 rl rp rb wt wn))) (zR (.int (nI ((w * 2 ^ 1 ||| w / 2 ^ (σ 2 - 1)) &&& (2 ^ (σ 2) - 1))))) 0 0 (fun _ => False) := by
  refine zr_of (cc := cX4_shiftedRound) (maxL := 2) (ret := (some .int)) (by decide) rfl (Nat.le_of_ble_eq_true rfl) ?_
  intro p e s m below meth c R args Q hR hx hb hml hr hlk hown hts hK hN hP hQ ls hl
  have hown : s.vm.findClass RX4 = some m.cls := hown
  have hl : lv_has ls 2 [(0, .ref (A 1)), (1, .int (nI w))] := hl
  have kw := kσ
  obtain ⟨n3, n12, d1, d3, dn, b4, b10, gl, lm, sn, wl, wnz⟩ := kw
  have pb := zp_b b10
  have pk9 := zp_k d3
  refine lv_iload_n hx hb dX4_shiftedRound_0 rfl (lv_at hl 1 rfl) ?_
  refine lv_iconst (v := (nI 1)) hx hb dX4_shiftedRound_1 (by decide) ?_
  refine zv_ishl hx hb (v := (nI (w * 2 ^ 1))) dX4_shiftedRound_2 (zShl (by omega) (by omega)) ?_
  refine lv_iload_n hx hb dX4_shiftedRound_3 rfl (lv_at hl 1 rfl) ?_
  refine lv_aload_n hx hb dX4_shiftedRound_4 rfl (lv_at hl 0 rfl) ?_
  refine va_get (D := D) (ci := 4) (v := .int (nI (σ 2))) (C := RX4) (T := TX4) (N := 7) hx hb hts qX4_shiftedRound_inX4 hown hK hP 1 rfl rfl 2 (by decide) (hts _ qX4_shiftedRound_Cond_fieldLink_RX4_18_NestedCodes_State_bits_I_) (fun _ h9 => h9) rfl dX4_shiftedRound_5 ?_
  refine lv_iconst (v := (nI 1)) hx hb dX4_shiftedRound_8 (by decide) ?_
  refine zv_isub hx hb (v := (nI ((σ 2) - 1))) dX4_shiftedRound_9 (pk_sub (by omega)) ?_
  refine zv_ishr hx hb (v := (nI (w / 2 ^ ((σ 2) - 1)))) dX4_shiftedRound_10 (zShr (by omega) (by omega)) ?_
  refine zv_ior hx hb (v := (nI ((w * 2 ^ 1) ||| (w / 2 ^ ((σ 2) - 1))))) dX4_shiftedRound_11 (fa_or _ _) ?_
  refine lv_aload_n hx hb dX4_shiftedRound_12 rfl (lv_at hl 0 rfl) ?_
  refine zc_r (va_runV (As := []) (rest := [.int (nI ((w * 2 ^ 1) ||| (w / 2 ^ ((σ 2) - 1))))]) ⟨hx, hb, hml, hown, hts⟩ (c_X4_allBits l D Y A B σ hn h wd dd r0 r1 r2 r3 r4 rl rp rb wt wn  kσ) (cwV 0 hts gX4_shiftedRound_X4_allBits rfl rfl rfl (by decide +kernel) (by rw [hR]; exact ⟨Nat.le_of_ble_eq_true rfl, Nat.le_of_ble_eq_true rfl⟩)) ⟨zB_blind, va_recv hK hP (ci := 4) (q0 := 1) rfl rfl, zp_r hP hK hN⟩ rfl rfl hl.1 rfl (lv_room (Nat.le_of_ble_eq_true rfl)) dX4_shiftedRound_13 ⟨Nat.zero_le _, Nat.zero_le _⟩).run ?_
  refine zv_iand hx hb (v := (nI (((w * 2 ^ 1) ||| (w / 2 ^ ((σ 2) - 1))) &&& (2 ^ (σ 2) - 1)))) dX4_shiftedRound_16 (nx_and _ _) ?_
  exact zr_i hx hb hr hlk hQ dX4_shiftedRound_17 (rfl)
theorem qX4_clearBlocks_Cond_fieldLink_RX4_32_NestedCodes_State_sentMessage_I_ : Cond.fieldLink RX4 32 "NestedCodes$State" "sentMessage" "I" ∈ wsX4_clearBlocks := by decide +kernel
theorem qX4_clearBlocks_inX4 : ∀ w ∈ wsX40, w ∈ wsX4_clearBlocks := by decide +kernel
theorem qX4_clearBlocks_Cond_fieldLink_RX4_25_NestedCodes_State_words_I_ : Cond.fieldLink RX4 25 "NestedCodes$State" "words" "[I" ∈ wsX4_clearBlocks := by decide +kernel
theorem qX4_clearBlocks_Cond_fieldLink_RX4_28_NestedCodes_State_lost_Z_ : Cond.fieldLink RX4 28 "NestedCodes$State" "lost" "[Z" ∈ wsX4_clearBlocks := by decide +kernel
set_option maxHeartbeats 4000000 in
set_option maxRecDepth 100000 in
theorem c_X4_clearBlocks (l : Launch) (D : va_G) (Y : Nat → ClassId) (A : Nat → Nat) (B : Nat → Nat) (σ : Nat → Nat) (hn : Nat) (h : Nat → Nat → Nat) (wd : Nat → Nat) (dd : Nat) (r0 : Nat → Nat) (r1 : Nat → Nat) (r2 : Nat → Nat) (r3 : Nat → Nat) (r4 : Nat → Nat) (rl : Nat) (rp : Nat) (rb : Nat) (wt : Nat → Nat) (wn : Nat)   (kL : σ 7 < 4096) : Met l yX4_clearBlocks wsX4_clearBlocks ({ frames := 0, cells := 0, slots := 0, locals := 0 } : Room) (va_Pc [.ref (A 1)] (zBw D Y (CX Y A B σ hn h wd dd r0 r1 r2 r3 r4 rl rp rb wt wn))) (zW none D (CX Y A B (clr σ) hn h wd dd r0 r1 r2 r3 r4 rl rp rb wt wn) (zA (CX Y A B σ hn h wd dd r0 r1 r2 r3 r4 rl rp rb wt wn))) 0 0 (zA (CX Y A B σ hn h wd dd r0 r1 r2 r3 r4 rl rp rb wt wn)) := by
  refine zw_of (cc := cX4_clearBlocks) (maxL := 2) (ret := none) (by decide) rfl (Nat.le_of_ble_eq_true rfl) ?_
  intro p e s m below meth c R args Q FA hR hx hb hml hr hlk hown hts hK hN hQ hP hD hS ls hl
  have hown : s.vm.findClass RX4 = some m.cls := hown
  have hl : lv_has ls 2 [(0, .ref (A 1))] := hl
  have hS := hS
  suffices hgo : ∀ (H : Heap) (locs : List Loc), va_P D vwCl (CX Y A B σ hn h wd dd r0 r1 r2 r3 r4 rl rp rb wt wn) H → va_S FA s.heap H locs → W p l e R s m args below meth c H locs 0 0 Q (F0 m 0 ls []) from hgo _ _ hP hS
  clear hP hS
  intro H locs hP hS
  refine lv_aload_n hx hb dX4_clearBlocks_0 rfl (lv_at hl 0 rfl) ?_
  refine lv_iconst (v := (nI 0)) hx hb dX4_clearBlocks_1 (by decide) ?_
  refine va_put (D := D) (ci := 4) (v := .int (nI 0)) (ty := .int) (C := RX4) (T := TX4) (N := 7) hx hb hts qX4_clearBlocks_inX4 tyX4 tyX4_ok nmX4 hown hK hP hD hS 1 rfl rfl 6 (by decide) (hts _ qX4_clearBlocks_Cond_fieldLink_RX4_32_NestedCodes_State_sentMessage_I_) (fun _ h9 => h9) rfl (by decide +kernel) rfl rfl (Nat.le_of_ble_eq_true rfl) dX4_clearBlocks_2 (fun H locs hP hD9 hS => ?_)
  have hP : va_P D vwCl (CX Y A B (va_up σ 8 0) hn h wd dd r0 r1 r2 r3 r4 rl rp rb wt wn) H := by rw [CX_f8] at hP; exact hP
  have hD : va_D FA (CX Y A B (va_up σ 8 0) hn h wd dd r0 r1 r2 r3 r4 rl rp rb wt wn) := CX_dd hD
  clear hD9
  refine lv_iconst (v := (nI 0)) hx hb dX4_clearBlocks_5 (by decide) ?_
  refine lv_istore_n (lv' := [(1, .int (nI 0)), (0, .ref (A 1))]) hx hb dX4_clearBlocks_6 rfl hl (by decide) rfl (fun ls hl => ?_)
  have L7 : ∀ (n9 : Nat) (i : Nat) (hi : i ≤ 12), 12 - i < n9 → ∀ (H : Heap) (locs : List Loc), va_P D vwCl (CX Y A B (clrI i σ) hn h wd dd r0 r1 r2 r3 r4 rl rp rb wt wn) H → va_D FA (CX Y A B (clrI i σ) hn h wd dd r0 r1 r2 r3 r4 rl rp rb wt wn) → va_S FA s.heap H locs → ∀ ls : Array Slot, lv_has ls 2 [(1, .int (nI i)), (0, .ref (A 1))] → W p l e R s m args below meth c H locs 0 0 Q (F0 m 7 ls []) := by
    intro n9
    induction n9 with
    | zero => intro i hi hn9; exact absurd hn9 (Nat.not_lt_zero _)
    | succ n9 ih9 =>
      have ih7 := ih9
      clear ih9
      intro i hi hn9 H locs hP hD hS ls hl
      refine lv_iload_n hx hb dX4_clearBlocks_7 rfl (lv_at hl 0 rfl) ?_
      refine lv_bipush (v := (nI 12)) hx hb dX4_clearBlocks_8 (by decide) ?_
      refine zn_icmp_ge (tgt := 33)  hx hb dX4_clearBlocks_10 (by decide) (by omega) (by omega) (fun c10 => ?_) (fun c10 => ?_)
      · obtain rfl : i = 12 := by omega
        rw [clrI_12 kL] at hP
        have hD := CX_dd (σ' := clr σ) (hn' := hn) (h' := h) (wd' := wd) (dd' := dd) (r0' := r0) (r1' := r1) (r2' := r2) (r3' := r3) (r4' := r4) (rl' := rl) (rp' := rp) (rb' := rb) (wt' := wt) (wn' := wn) hD
        exact zw_v hx hb hr hlk hQ hS dX4_clearBlocks_33 (hP)
      · refine lv_aload_n hx hb dX4_clearBlocks_13 rfl (lv_at hl 1 rfl) ?_
        refine va_get (D := D) (ci := 4) (v := .ref (A 3)) (C := RX4) (T := TX4) (N := 7) hx hb hts qX4_clearBlocks_inX4 hown hK hP 1 rfl rfl 4 (by decide) (hts _ qX4_clearBlocks_Cond_fieldLink_RX4_25_NestedCodes_State_words_I_) (fun _ h9 => h9) rfl dX4_clearBlocks_14 ?_
        refine lv_iload_n hx hb dX4_clearBlocks_17 rfl (lv_at hl 0 rfl) ?_
        refine lv_iconst (v := (nI 0)) hx hb dX4_clearBlocks_18 (by decide) ?_
        refine zs_i hx hb hK hP hD hS 3 (f := fun k9 => nI ((clrI i σ) (9 + k9))) rfl (by omega) (by decide) dX4_clearBlocks_19 (fun H locs hP hD9 hS => ?_)
        have hP : va_P D vwCl (CX Y A B (va_up (clrI i σ) (9 + i) 0) hn h wd dd r0 r1 r2 r3 r4 rl rp rb wt wn) H := by rw [CX_w (i := i) (by omega)] at hP; exact hP
        have hD : va_D FA (CX Y A B (va_up (clrI i σ) (9 + i) 0) hn h wd dd r0 r1 r2 r3 r4 rl rp rb wt wn) := CX_dd hD
        clear hD9
        refine lv_aload_n hx hb dX4_clearBlocks_20 rfl (lv_at hl 1 rfl) ?_
        refine va_get (D := D) (ci := 4) (v := .ref (A 4)) (C := RX4) (T := TX4) (N := 7) hx hb hts qX4_clearBlocks_inX4 hown hK hP 1 rfl rfl 5 (by decide) (hts _ qX4_clearBlocks_Cond_fieldLink_RX4_28_NestedCodes_State_lost_Z_) (fun _ h9 => h9) rfl dX4_clearBlocks_21 ?_
        refine lv_iload_n hx hb dX4_clearBlocks_24 rfl (lv_at hl 0 rfl) ?_
        refine lv_iconst (v := (nI 0)) hx hb dX4_clearBlocks_25 (by decide) ?_
        refine zs_z hx hb hK hP hD hS 4 (f := fun k9 => nI (zL ((va_up (clrI i σ) (9 + i) 0) 7) k9)) rfl (by omega) (by decide) dX4_clearBlocks_26 (fun H locs hP hD9 hS => ?_)
        have hP : va_P D vwCl (CX Y A B (va_up (va_up (clrI i σ) (9 + i) 0) 7 (σ 7 / 2 ^ (i + 1) * 2 ^ (i + 1))) hn h wd dd r0 r1 r2 r3 r4 rl rp rb wt wn) H := by rw [CX_l (i := i) (v := 0) (M := σ 7 / 2 ^ (i + 1) * 2 ^ (i + 1)) (by decide) (clrI_l i σ)] at hP; exact hP
        have hD : va_D FA (CX Y A B (va_up (va_up (clrI i σ) (9 + i) 0) 7 (σ 7 / 2 ^ (i + 1) * 2 ^ (i + 1))) hn h wd dd r0 r1 r2 r3 r4 rl rp rb wt wn) := CX_dd hD
        clear hD9
        refine lv_iinc (v := (nI (i + 1))) (lv' := [(1, .int (nI (i + 1))), (0, .ref (A 1))]) hx hb dX4_clearBlocks_27 hl (k := 0) rfl (zinc _) (by decide) rfl (fun ls hl => ?_)
        refine lv_goto (tgt := 7) hx hb dX4_clearBlocks_30 (by decide) ?_
        have e9 : (va_up (va_up (clrI i σ) (9 + i) 0) 7 (σ 7 / 2 ^ (i + 1) * 2 ^ (i + 1))) = (clrI (i + 1) σ) := clrI_up i σ
        rw [e9] at hP
        clear e9
        have hP : va_P D vwCl (CX Y A B (clrI (i + 1) σ) hn h wd dd r0 r1 r2 r3 r4 rl rp rb wt wn) H := hP
        have hD : va_D FA (CX Y A B (clrI (i + 1) σ) hn h wd dd r0 r1 r2 r3 r4 rl rp rb wt wn) := CX_dd hD
        exact ih7 (i + 1) (by omega) (by omega) H locs hP hD hS ls (lv_sub hl [0, 1] rfl)
  have e9 : (va_up σ 8 0) = (clrI 0 σ) := clrI_0 σ
  rw [e9] at hP
  clear e9
  have hP : va_P D vwCl (CX Y A B (clrI 0 σ) hn h wd dd r0 r1 r2 r3 r4 rl rp rb wt wn) H := hP
  have hD : va_D FA (CX Y A B (clrI 0 σ) hn h wd dd r0 r1 r2 r3 r4 rl rp rb wt wn) := CX_dd hD
  exact L7 (12 - 0 + 1) 0 (by omega) (Nat.lt_succ_self _) _ _ hP hD hS ls (lv_sub hl [0, 1] rfl)
/-- two states: one is copied from the other -/
def SX (Y : Nat → ClassId) (T : Nat → Nat) (O : Nat → Nat) (n1 : Nat) (k1 : Nat) (b1 : Nat) (sn1 : Nat) (g1 : Nat → Nat) (w1 : Nat → Nat) (l1 : Nat → Nat) (τ : Nat → Nat) : va_W := [(T 0, .inr (4, [.int (nI n1), .int (nI k1), .int (nI b1), .ref (T 1), .ref (T 2), .ref (T 3), .int (nI sn1)])), (T 1, .inl (Y 0, 4, .inl (fun j => nI (g1 j)))), (T 2, .inl (Y 0, 12, .inl (fun j => nI (w1 j)))), (T 3, .inl (Y 1, 12, .inl (fun j => nI (l1 j)))), (O 0, .inr (4, [.int (nI (τ 0)), .int (nI (τ 1)), .int (nI (τ 2)), .ref (O 1), .ref (O 2), .ref (O 3), .int (nI (τ 8))])), (O 1, .inl (Y 0, 4, .inl (fun j => nI (zg τ j)))), (O 2, .inl (Y 0, 12, .inl (fun j => nI (τ (9 + j))))), (O 3, .inl (Y 1, 12, .inl (fun j => nI (zL (τ 7) j))))]
theorem qX4_copyFrom_Cond_fieldLink_RX4_9_NestedCodes_State_length_I_ : Cond.fieldLink RX4 9 "NestedCodes$State" "length" "I" ∈ wsX4_copyFrom := by decide +kernel
theorem qX4_copyFrom_inX4 : ∀ w ∈ wsX40, w ∈ wsX4_copyFrom := by decide +kernel
theorem qX4_copyFrom_Cond_fieldLink_RX4_15_NestedCodes_State_dimension_I_ : Cond.fieldLink RX4 15 "NestedCodes$State" "dimension" "I" ∈ wsX4_copyFrom := by decide +kernel
theorem qX4_copyFrom_Cond_fieldLink_RX4_18_NestedCodes_State_bits_I_ : Cond.fieldLink RX4 18 "NestedCodes$State" "bits" "I" ∈ wsX4_copyFrom := by decide +kernel
theorem qX4_copyFrom_Cond_fieldLink_RX4_32_NestedCodes_State_sentMessage_I_ : Cond.fieldLink RX4 32 "NestedCodes$State" "sentMessage" "I" ∈ wsX4_copyFrom := by decide +kernel
theorem qX4_copyFrom_Cond_fieldLink_RX4_25_NestedCodes_State_words_I_ : Cond.fieldLink RX4 25 "NestedCodes$State" "words" "[I" ∈ wsX4_copyFrom := by decide +kernel
theorem qX4_copyFrom_Cond_fieldLink_RX4_28_NestedCodes_State_lost_Z_ : Cond.fieldLink RX4 28 "NestedCodes$State" "lost" "[Z" ∈ wsX4_copyFrom := by decide +kernel
theorem qX4_copyFrom_Cond_fieldLink_RX4_21_NestedCodes_State_generators_I_ : Cond.fieldLink RX4 21 "NestedCodes$State" "generators" "[I" ∈ wsX4_copyFrom := by decide +kernel
set_option maxHeartbeats 4000000 in
set_option maxRecDepth 100000 in
theorem c_X4_copyFrom (l : Launch) (D : va_G) (Y : Nat → ClassId) (T : Nat → Nat) (O : Nat → Nat) (n1 : Nat) (k1 : Nat) (b1 : Nat) (sn1 : Nat) (g1 : Nat → Nat) (w1 : Nat → Nat) (l1 : Nat → Nat) (τ : Nat → Nat)    : Met l yX4_copyFrom wsX4_copyFrom ({ frames := 0, cells := 0, slots := 0, locals := 0 } : Room) (va_Pc [.ref (T 0), .ref (O 0)] (zBw D Y (SX Y T O n1 k1 b1 sn1 g1 w1 l1 τ))) (zW none D (SX Y T O (τ 0) (τ 1) (τ 2) (τ 8) (zg τ) (fun j => τ (9 + j)) (zL (τ 7)) τ) (zA (SX Y T O n1 k1 b1 sn1 g1 w1 l1 τ))) 0 0 (zA (SX Y T O n1 k1 b1 sn1 g1 w1 l1 τ)) := by
  refine zw_of (cc := cX4_copyFrom) (maxL := 3) (ret := none) (by decide) rfl (Nat.le_of_ble_eq_true rfl) ?_
  intro p e s m below meth c R args Q FA hR hx hb hml hr hlk hown hts hK hN hQ hP hD hS ls hl
  have hown : s.vm.findClass RX4 = some m.cls := hown
  have hl : lv_has ls 3 [(0, .ref (T 0)), (1, .ref (O 0))] := hl
  have hS := hS
  suffices hgo : ∀ (H : Heap) (locs : List Loc), va_P D vwCl (SX Y T O n1 k1 b1 sn1 g1 w1 l1 τ) H → va_S FA s.heap H locs → W p l e R s m args below meth c H locs 0 0 Q (F0 m 0 ls []) from hgo _ _ hP hS
  clear hP hS
  intro H locs hP hS
  refine lv_aload_n hx hb dX4_copyFrom_0 rfl (lv_at hl 0 rfl) ?_
  refine lv_aload_n hx hb dX4_copyFrom_1 rfl (lv_at hl 1 rfl) ?_
  refine va_get (D := D) (ci := 4) (v := .int (nI (τ 0))) (C := RX4) (T := TX4) (N := 7) hx hb hts qX4_copyFrom_inX4 hown hK hP 4 rfl rfl 0 (by decide) (hts _ qX4_copyFrom_Cond_fieldLink_RX4_9_NestedCodes_State_length_I_) (fun _ h9 => h9) rfl dX4_copyFrom_2 ?_
  refine va_put (D := D) (ci := 4) (v := .int (nI (τ 0))) (ty := .int) (C := RX4) (T := TX4) (N := 7) hx hb hts qX4_copyFrom_inX4 tyX4 tyX4_ok nmX4 hown hK hP hD hS 0 rfl rfl 0 (by decide) (hts _ qX4_copyFrom_Cond_fieldLink_RX4_9_NestedCodes_State_length_I_) (fun _ h9 => h9) rfl (by decide +kernel) rfl rfl (Nat.le_of_ble_eq_true rfl) dX4_copyFrom_5 (fun H locs hP hD9 hS => ?_)
  have hP : va_P D vwCl (SX Y T O (τ 0) k1 b1 sn1 g1 w1 l1 τ) H := hP
  have hD : va_D FA (SX Y T O (τ 0) k1 b1 sn1 g1 w1 l1 τ) := zD_same hD rfl
  clear hD9
  refine lv_aload_n hx hb dX4_copyFrom_8 rfl (lv_at hl 0 rfl) ?_
  refine lv_aload_n hx hb dX4_copyFrom_9 rfl (lv_at hl 1 rfl) ?_
  refine va_get (D := D) (ci := 4) (v := .int (nI (τ 1))) (C := RX4) (T := TX4) (N := 7) hx hb hts qX4_copyFrom_inX4 hown hK hP 4 rfl rfl 1 (by decide) (hts _ qX4_copyFrom_Cond_fieldLink_RX4_15_NestedCodes_State_dimension_I_) (fun _ h9 => h9) rfl dX4_copyFrom_10 ?_
  refine va_put (D := D) (ci := 4) (v := .int (nI (τ 1))) (ty := .int) (C := RX4) (T := TX4) (N := 7) hx hb hts qX4_copyFrom_inX4 tyX4 tyX4_ok nmX4 hown hK hP hD hS 0 rfl rfl 1 (by decide) (hts _ qX4_copyFrom_Cond_fieldLink_RX4_15_NestedCodes_State_dimension_I_) (fun _ h9 => h9) rfl (by decide +kernel) rfl rfl (Nat.le_of_ble_eq_true rfl) dX4_copyFrom_13 (fun H locs hP hD9 hS => ?_)
  have hP : va_P D vwCl (SX Y T O (τ 0) (τ 1) b1 sn1 g1 w1 l1 τ) H := hP
  have hD : va_D FA (SX Y T O (τ 0) (τ 1) b1 sn1 g1 w1 l1 τ) := zD_same hD rfl
  clear hD9
  refine lv_aload_n hx hb dX4_copyFrom_16 rfl (lv_at hl 0 rfl) ?_
  refine lv_aload_n hx hb dX4_copyFrom_17 rfl (lv_at hl 1 rfl) ?_
  refine va_get (D := D) (ci := 4) (v := .int (nI (τ 2))) (C := RX4) (T := TX4) (N := 7) hx hb hts qX4_copyFrom_inX4 hown hK hP 4 rfl rfl 2 (by decide) (hts _ qX4_copyFrom_Cond_fieldLink_RX4_18_NestedCodes_State_bits_I_) (fun _ h9 => h9) rfl dX4_copyFrom_18 ?_
  refine va_put (D := D) (ci := 4) (v := .int (nI (τ 2))) (ty := .int) (C := RX4) (T := TX4) (N := 7) hx hb hts qX4_copyFrom_inX4 tyX4 tyX4_ok nmX4 hown hK hP hD hS 0 rfl rfl 2 (by decide) (hts _ qX4_copyFrom_Cond_fieldLink_RX4_18_NestedCodes_State_bits_I_) (fun _ h9 => h9) rfl (by decide +kernel) rfl rfl (Nat.le_of_ble_eq_true rfl) dX4_copyFrom_21 (fun H locs hP hD9 hS => ?_)
  have hP : va_P D vwCl (SX Y T O (τ 0) (τ 1) (τ 2) sn1 g1 w1 l1 τ) H := hP
  have hD : va_D FA (SX Y T O (τ 0) (τ 1) (τ 2) sn1 g1 w1 l1 τ) := zD_same hD rfl
  clear hD9
  refine lv_aload_n hx hb dX4_copyFrom_24 rfl (lv_at hl 0 rfl) ?_
  refine lv_aload_n hx hb dX4_copyFrom_25 rfl (lv_at hl 1 rfl) ?_
  refine va_get (D := D) (ci := 4) (v := .int (nI (τ 8))) (C := RX4) (T := TX4) (N := 7) hx hb hts qX4_copyFrom_inX4 hown hK hP 4 rfl rfl 6 (by decide) (hts _ qX4_copyFrom_Cond_fieldLink_RX4_32_NestedCodes_State_sentMessage_I_) (fun _ h9 => h9) rfl dX4_copyFrom_26 ?_
  refine va_put (D := D) (ci := 4) (v := .int (nI (τ 8))) (ty := .int) (C := RX4) (T := TX4) (N := 7) hx hb hts qX4_copyFrom_inX4 tyX4 tyX4_ok nmX4 hown hK hP hD hS 0 rfl rfl 6 (by decide) (hts _ qX4_copyFrom_Cond_fieldLink_RX4_32_NestedCodes_State_sentMessage_I_) (fun _ h9 => h9) rfl (by decide +kernel) rfl rfl (Nat.le_of_ble_eq_true rfl) dX4_copyFrom_29 (fun H locs hP hD9 hS => ?_)
  have hP : va_P D vwCl (SX Y T O (τ 0) (τ 1) (τ 2) (τ 8) g1 w1 l1 τ) H := hP
  have hD : va_D FA (SX Y T O (τ 0) (τ 1) (τ 2) (τ 8) g1 w1 l1 τ) := zD_same hD rfl
  clear hD9
  refine lv_iconst (v := (nI 0)) hx hb dX4_copyFrom_32 (by decide) ?_
  refine lv_istore_n (lv' := [(2, .int (nI 0)), (0, .ref (T 0)), (1, .ref (O 0))]) hx hb dX4_copyFrom_33 rfl hl (by decide) rfl (fun ls hl => ?_)
  have L34 : ∀ (n9 : Nat) (i : Nat) (hi : i ≤ 4), 4 - i < n9 → ∀ (H : Heap) (locs : List Loc), va_P D vwCl (SX Y T O (τ 0) (τ 1) (τ 2) (τ 8) (zmx i (zg τ) g1) w1 l1 τ) H → va_D FA (SX Y T O (τ 0) (τ 1) (τ 2) (τ 8) (zmx i (zg τ) g1) w1 l1 τ) → va_S FA s.heap H locs → ∀ ls : Array Slot, lv_has ls 3 [(2, .int (nI i)), (0, .ref (T 0)), (1, .ref (O 0))] → W p l e R s m args below meth c H locs 0 0 Q (F0 m 34 ls []) := by
    intro n9
    induction n9 with
    | zero => intro i hi hn9; exact absurd hn9 (Nat.not_lt_zero _)
    | succ n9 ih9 =>
      have ih34 := ih9
      clear ih9
      intro i hi hn9 H locs hP hD hS ls hl
      refine lv_iload_n hx hb dX4_copyFrom_34 rfl (lv_at hl 0 rfl) ?_
      refine lv_iconst (v := (nI 4)) hx hb dX4_copyFrom_35 (by decide) ?_
      refine zn_icmp_ge (tgt := 57)  hx hb dX4_copyFrom_36 (by decide) (by omega) (by omega) (fun c36 => ?_) (fun c36 => ?_)
      · obtain rfl : i = 4 := by omega
        refine lv_iconst (v := (nI 0)) hx hb dX4_copyFrom_57 (by decide) ?_
        refine lv_istore_n (lv' := [(2, .int (nI 0)), (0, .ref (T 0)), (1, .ref (O 0))]) hx hb dX4_copyFrom_58 rfl hl (by decide) rfl (fun ls hl => ?_)
        have L59 : ∀ (n9 : Nat) (i : Nat) (hi : i ≤ 12), 12 - i < n9 → ∀ (H : Heap) (locs : List Loc), va_P D vwCl (SX Y T O (τ 0) (τ 1) (τ 2) (τ 8) (zmx 4 (zg τ) g1) (zmx i (fun j => τ (9 + j)) w1) (zmx i (zL (τ 7)) l1) τ) H → va_D FA (SX Y T O (τ 0) (τ 1) (τ 2) (τ 8) (zmx 4 (zg τ) g1) (zmx i (fun j => τ (9 + j)) w1) (zmx i (zL (τ 7)) l1) τ) → va_S FA s.heap H locs → ∀ ls : Array Slot, lv_has ls 3 [(2, .int (nI i)), (0, .ref (T 0)), (1, .ref (O 0))] → W p l e R s m args below meth c H locs 0 0 Q (F0 m 59 ls []) := by
          intro n9
          induction n9 with
          | zero => intro i hi hn9; exact absurd hn9 (Nat.not_lt_zero _)
          | succ n9 ih9 =>
            have ih59 := ih9
            clear ih9
            intro i hi hn9 H locs hP hD hS ls hl
            have hz := zL_01 (τ 7) i
            refine lv_iload_n hx hb dX4_copyFrom_59 rfl (lv_at hl 0 rfl) ?_
            refine lv_bipush (v := (nI 12)) hx hb dX4_copyFrom_60 (by decide) ?_
            refine zn_icmp_ge (tgt := 95)  hx hb dX4_copyFrom_62 (by decide) (by omega) (by omega) (fun c62 => ?_) (fun c62 => ?_)
            · obtain rfl : i = 12 := by omega
              have hP := zP_arrI 1 (fun j => nI (zg τ j)) hP rfl (fun j hj => congrArg nI (zmx_in _ _ (by omega)))
              have hP := zP_arrI 2 (fun j => nI (τ (9 + j))) hP rfl (fun j hj => congrArg nI (zmx_in _ _ (by omega)))
              have hP := zP_arrI 3 (fun j => nI (zL (τ 7) j)) hP rfl (fun j hj => congrArg nI (zmx_in _ _ (by omega)))
              exact zw_v hx hb hr hlk hQ hS dX4_copyFrom_95 (hP)
            · refine lv_aload_n hx hb dX4_copyFrom_65 rfl (lv_at hl 1 rfl) ?_
              refine va_get (D := D) (ci := 4) (v := .ref (T 2)) (C := RX4) (T := TX4) (N := 7) hx hb hts qX4_copyFrom_inX4 hown hK hP 0 rfl rfl 4 (by decide) (hts _ qX4_copyFrom_Cond_fieldLink_RX4_25_NestedCodes_State_words_I_) (fun _ h9 => h9) rfl dX4_copyFrom_66 ?_
              refine lv_iload_n hx hb dX4_copyFrom_69 rfl (lv_at hl 0 rfl) ?_
              refine lv_aload_n hx hb dX4_copyFrom_70 rfl (lv_at hl 2 rfl) ?_
              refine va_get (D := D) (ci := 4) (v := .ref (O 2)) (C := RX4) (T := TX4) (N := 7) hx hb hts qX4_copyFrom_inX4 hown hK hP 4 rfl rfl 4 (by decide) (hts _ qX4_copyFrom_Cond_fieldLink_RX4_25_NestedCodes_State_words_I_) (fun _ h9 => h9) rfl dX4_copyFrom_71 ?_
              refine lv_iload_n hx hb dX4_copyFrom_74 rfl (lv_at hl 0 rfl) ?_
              refine za_i hx hb hK hP 6 (f := fun k9 => nI (τ (9 + k9))) (v := (nI (τ (9 + i)))) rfl (by omega) (by decide) dX4_copyFrom_75 (rfl) ?_
              refine zs_i hx hb hK hP hD hS 2 (f := fun k9 => nI ((zmx i (fun j => τ (9 + j)) w1) k9)) rfl (by omega) (by decide) dX4_copyFrom_76 (fun H locs hP hD9 hS => ?_)
              rw [zupd] at hP
              have hP : va_P D vwCl (SX Y T O (τ 0) (τ 1) (τ 2) (τ 8) (zmx 4 (zg τ) g1) (va_up (zmx i (fun j => τ (9 + j)) w1) i (τ (9 + i))) (zmx i (zL (τ 7)) l1) τ) H := hP
              have hD : va_D FA (SX Y T O (τ 0) (τ 1) (τ 2) (τ 8) (zmx 4 (zg τ) g1) (va_up (zmx i (fun j => τ (9 + j)) w1) i (τ (9 + i))) (zmx i (zL (τ 7)) l1) τ) := zD_same hD rfl
              clear hD9
              refine lv_aload_n hx hb dX4_copyFrom_77 rfl (lv_at hl 1 rfl) ?_
              refine va_get (D := D) (ci := 4) (v := .ref (T 3)) (C := RX4) (T := TX4) (N := 7) hx hb hts qX4_copyFrom_inX4 hown hK hP 0 rfl rfl 5 (by decide) (hts _ qX4_copyFrom_Cond_fieldLink_RX4_28_NestedCodes_State_lost_Z_) (fun _ h9 => h9) rfl dX4_copyFrom_78 ?_
              refine lv_iload_n hx hb dX4_copyFrom_81 rfl (lv_at hl 0 rfl) ?_
              refine lv_aload_n hx hb dX4_copyFrom_82 rfl (lv_at hl 2 rfl) ?_
              refine va_get (D := D) (ci := 4) (v := .ref (O 3)) (C := RX4) (T := TX4) (N := 7) hx hb hts qX4_copyFrom_inX4 hown hK hP 4 rfl rfl 5 (by decide) (hts _ qX4_copyFrom_Cond_fieldLink_RX4_28_NestedCodes_State_lost_Z_) (fun _ h9 => h9) rfl dX4_copyFrom_83 ?_
              refine lv_iload_n hx hb dX4_copyFrom_86 rfl (lv_at hl 0 rfl) ?_
              refine za_z hx hb hK hP 7 (f := fun k9 => nI (zL (τ 7) k9)) (v := (nI (zL (τ 7) i))) rfl (by omega) (by decide) dX4_copyFrom_87 (rfl) ?_
              refine zs_z hx hb hK hP hD hS 3 (f := fun k9 => nI ((zmx i (zL (τ 7)) l1) k9)) rfl (by omega) (by decide) dX4_copyFrom_88 (fun H locs hP hD9 hS => ?_)
              rw [zupdZ _ _ (by omega)] at hP
              have hP : va_P D vwCl (SX Y T O (τ 0) (τ 1) (τ 2) (τ 8) (zmx 4 (zg τ) g1) (va_up (zmx i (fun j => τ (9 + j)) w1) i (τ (9 + i))) (va_up (zmx i (zL (τ 7)) l1) i (zL (τ 7) i)) τ) H := hP
              have hD : va_D FA (SX Y T O (τ 0) (τ 1) (τ 2) (τ 8) (zmx 4 (zg τ) g1) (va_up (zmx i (fun j => τ (9 + j)) w1) i (τ (9 + i))) (va_up (zmx i (zL (τ 7)) l1) i (zL (τ 7) i)) τ) := zD_same hD rfl
              clear hD9
              refine lv_iinc (v := (nI (i + 1))) (lv' := [(2, .int (nI (i + 1))), (0, .ref (T 0)), (1, .ref (O 0))]) hx hb dX4_copyFrom_89 hl (k := 0) rfl (zinc _) (by decide) rfl (fun ls hl => ?_)
              refine lv_goto (tgt := 59) hx hb dX4_copyFrom_92 (by decide) ?_
              have e9 : (va_up (zmx i (fun j => τ (9 + j)) w1) i (τ (9 + i))) = (zmx (i + 1) (fun j => τ (9 + j)) w1) := zmx_up i (fun j => τ (9 + j)) w1
              rw [e9] at hP
              clear e9
              have e9 : (va_up (zmx i (zL (τ 7)) l1) i (zL (τ 7) i)) = (zmx (i + 1) (zL (τ 7)) l1) := zmx_up i (zL (τ 7)) l1
              rw [e9] at hP
              clear e9
              have hP : va_P D vwCl (SX Y T O (τ 0) (τ 1) (τ 2) (τ 8) (zmx 4 (zg τ) g1) (zmx (i + 1) (fun j => τ (9 + j)) w1) (zmx (i + 1) (zL (τ 7)) l1) τ) H := hP
              have hD : va_D FA (SX Y T O (τ 0) (τ 1) (τ 2) (τ 8) (zmx 4 (zg τ) g1) (zmx (i + 1) (fun j => τ (9 + j)) w1) (zmx (i + 1) (zL (τ 7)) l1) τ) := zD_same hD rfl
              exact ih59 (i + 1) (by omega) (by omega) H locs hP hD hS ls (lv_sub hl [0, 1, 2] rfl)
        have e9 : w1 = (zmx 0 (fun j => τ (9 + j)) w1) := (zmx_0 _ _).symm
        rw [e9] at hP
        clear e9
        have e9 : l1 = (zmx 0 (zL (τ 7)) l1) := (zmx_0 _ _).symm
        rw [e9] at hP
        clear e9
        have hP : va_P D vwCl (SX Y T O (τ 0) (τ 1) (τ 2) (τ 8) (zmx 4 (zg τ) g1) (zmx 0 (fun j => τ (9 + j)) w1) (zmx 0 (zL (τ 7)) l1) τ) H := hP
        have hD : va_D FA (SX Y T O (τ 0) (τ 1) (τ 2) (τ 8) (zmx 4 (zg τ) g1) (zmx 0 (fun j => τ (9 + j)) w1) (zmx 0 (zL (τ 7)) l1) τ) := zD_same hD rfl
        exact L59 (12 - 0 + 1) 0 (by omega) (Nat.lt_succ_self _) _ _ hP hD hS ls (lv_sub hl [0, 1, 2] rfl)
      · refine lv_aload_n hx hb dX4_copyFrom_39 rfl (lv_at hl 1 rfl) ?_
        refine va_get (D := D) (ci := 4) (v := .ref (T 1)) (C := RX4) (T := TX4) (N := 7) hx hb hts qX4_copyFrom_inX4 hown hK hP 0 rfl rfl 3 (by decide) (hts _ qX4_copyFrom_Cond_fieldLink_RX4_21_NestedCodes_State_generators_I_) (fun _ h9 => h9) rfl dX4_copyFrom_40 ?_
        refine lv_iload_n hx hb dX4_copyFrom_43 rfl (lv_at hl 0 rfl) ?_
        refine lv_aload_n hx hb dX4_copyFrom_44 rfl (lv_at hl 2 rfl) ?_
        refine va_get (D := D) (ci := 4) (v := .ref (O 1)) (C := RX4) (T := TX4) (N := 7) hx hb hts qX4_copyFrom_inX4 hown hK hP 4 rfl rfl 3 (by decide) (hts _ qX4_copyFrom_Cond_fieldLink_RX4_21_NestedCodes_State_generators_I_) (fun _ h9 => h9) rfl dX4_copyFrom_45 ?_
        refine lv_iload_n hx hb dX4_copyFrom_48 rfl (lv_at hl 0 rfl) ?_
        refine za_i hx hb hK hP 5 (f := fun k9 => nI (zg τ k9)) (v := (nI (zg τ i))) rfl (by omega) (by decide) dX4_copyFrom_49 (rfl) ?_
        refine zs_i hx hb hK hP hD hS 1 (f := fun k9 => nI ((zmx i (zg τ) g1) k9)) rfl (by omega) (by decide) dX4_copyFrom_50 (fun H locs hP hD9 hS => ?_)
        rw [zupd] at hP
        have hP : va_P D vwCl (SX Y T O (τ 0) (τ 1) (τ 2) (τ 8) (va_up (zmx i (zg τ) g1) i (zg τ i)) w1 l1 τ) H := hP
        have hD : va_D FA (SX Y T O (τ 0) (τ 1) (τ 2) (τ 8) (va_up (zmx i (zg τ) g1) i (zg τ i)) w1 l1 τ) := zD_same hD rfl
        clear hD9
        refine lv_iinc (v := (nI (i + 1))) (lv' := [(2, .int (nI (i + 1))), (0, .ref (T 0)), (1, .ref (O 0))]) hx hb dX4_copyFrom_51 hl (k := 0) rfl (zinc _) (by decide) rfl (fun ls hl => ?_)
        refine lv_goto (tgt := 34) hx hb dX4_copyFrom_54 (by decide) ?_
        have e9 : (va_up (zmx i (zg τ) g1) i (zg τ i)) = (zmx (i + 1) (zg τ) g1) := zmx_up i (zg τ) g1
        rw [e9] at hP
        clear e9
        have hP : va_P D vwCl (SX Y T O (τ 0) (τ 1) (τ 2) (τ 8) (zmx (i + 1) (zg τ) g1) w1 l1 τ) H := hP
        have hD : va_D FA (SX Y T O (τ 0) (τ 1) (τ 2) (τ 8) (zmx (i + 1) (zg τ) g1) w1 l1 τ) := zD_same hD rfl
        exact ih34 (i + 1) (by omega) (by omega) H locs hP hD hS ls (lv_sub hl [0, 1, 2] rfl)
  have e9 : g1 = (zmx 0 (zg τ) g1) := (zmx_0 _ _).symm
  rw [e9] at hP
  clear e9
  have hP : va_P D vwCl (SX Y T O (τ 0) (τ 1) (τ 2) (τ 8) (zmx 0 (zg τ) g1) w1 l1 τ) H := hP
  have hD : va_D FA (SX Y T O (τ 0) (τ 1) (τ 2) (τ 8) (zmx 0 (zg τ) g1) w1 l1 τ) := zD_same hD rfl
  exact L34 (4 - 0 + 1) 0 (by omega) (Nat.lt_succ_self _) _ _ hP hD hS ls (lv_sub hl [0, 1, 2] rfl)
/-- the history, its rows and the states in them -/
def HX (Y : Nat → ClassId) (a5 : Nat) (a6 : Nat) (B : Nat → Nat) (q6 : Nat → Option Nat) (hn : Nat) (h : Nat → Nat → Nat) : va_W := [(a5, .inr (0, [.ref (a6), .int (nI hn)])), (a6, .inl (Y 4, 6, .inr (.inr (.inr (.inr q6))))), (B 0, .inr (4, [.int (nI (h 0 0)), .int (nI (h 0 1)), .int (nI (h 0 2)), .ref (B 1), .ref (B 2), .ref (B 3), .int (nI (h 0 8))])), (B 4, .inr (4, [.int (nI (h 1 0)), .int (nI (h 1 1)), .int (nI (h 1 2)), .ref (B 5), .ref (B 6), .ref (B 7), .int (nI (h 1 8))])), (B 8, .inr (4, [.int (nI (h 2 0)), .int (nI (h 2 1)), .int (nI (h 2 2)), .ref (B 9), .ref (B 10), .ref (B 11), .int (nI (h 2 8))])), (B 12, .inr (4, [.int (nI (h 3 0)), .int (nI (h 3 1)), .int (nI (h 3 2)), .ref (B 13), .ref (B 14), .ref (B 15), .int (nI (h 3 8))])), (B 16, .inr (4, [.int (nI (h 4 0)), .int (nI (h 4 1)), .int (nI (h 4 2)), .ref (B 17), .ref (B 18), .ref (B 19), .int (nI (h 4 8))])), (B 20, .inr (4, [.int (nI (h 5 0)), .int (nI (h 5 1)), .int (nI (h 5 2)), .ref (B 21), .ref (B 22), .ref (B 23), .int (nI (h 5 8))]))]
theorem qX0_dropOldest_Cond_fieldLink_RX0_11_NestedCodes_History_states_LNestedCodes_State_ : Cond.fieldLink RX0 11 "NestedCodes$History" "states" "[LNestedCodes$State;" ∈ wsX0_dropOldest := by decide +kernel
theorem qX0_dropOldest_inX0 : ∀ w ∈ wsX00, w ∈ wsX0_dropOldest := by decide +kernel
theorem qX0_dropOldest_Cond_fieldLink_RX0_18_NestedCodes_History_size_I_ : Cond.fieldLink RX0 18 "NestedCodes$History" "size" "I" ∈ wsX0_dropOldest := by decide +kernel
set_option maxHeartbeats 4000000 in
set_option maxRecDepth 100000 in
theorem c_X0_dropOldest (l : Launch) (D : va_G) (Y : Nat → ClassId) (a5 : Nat) (a6 : Nat) (B : Nat → Nat) (hn : Nat) (h : Nat → Nat → Nat)    : Met l yX0_dropOldest wsX0_dropOldest ({ frames := 0, cells := 0, slots := 0, locals := 0 } : Room) (va_Pc [.ref (a5)] (zBw D Y (HX Y a5 a6 B (fun j => some (B (4 * j))) hn h))) (zW none D (HX Y a5 a6 B (fun j => some (rotB B (4 * j))) 5 h) (zA (HX Y a5 a6 B (fun j => some (B (4 * j))) hn h))) 0 0 (zA (HX Y a5 a6 B (fun j => some (B (4 * j))) hn h)) := by
  refine zw_of (cc := cX0_dropOldest) (maxL := 3) (ret := none) (by decide) rfl (Nat.le_of_ble_eq_true rfl) ?_
  intro p e s m below meth c R args Q FA hR hx hb hml hr hlk hown hts hK hN hQ hP hD hS ls hl
  have hown : s.vm.findClass RX0 = some m.cls := hown
  have hl : lv_has ls 3 [(0, .ref (a5))] := hl
  have hS := hS
  suffices hgo : ∀ (H : Heap) (locs : List Loc), va_P D vwCl (HX Y a5 a6 B (fun j => some (B (4 * j))) hn h) H → va_S FA s.heap H locs → W p l e R s m args below meth c H locs 0 0 Q (F0 m 0 ls []) from hgo _ _ hP hS
  clear hP hS
  intro H locs hP hS
  refine lv_aload_n hx hb dX0_dropOldest_0 rfl (lv_at hl 0 rfl) ?_
  refine va_get (D := D) (ci := 0) (v := .ref (a6)) (C := RX0) (T := TX0) (N := 2) hx hb hts qX0_dropOldest_inX0 hown hK hP 0 rfl rfl 0 (by decide) (hts _ qX0_dropOldest_Cond_fieldLink_RX0_11_NestedCodes_History_states_LNestedCodes_State_) (fun _ h9 => h9) rfl dX0_dropOldest_1 ?_
  refine lv_iconst (v := (nI 0)) hx hb dX0_dropOldest_4 (by decide) ?_
  refine za_q hx hb hK hP 1 (f := (fun j => some (B (4 * j)))) (v := B 0) rfl (by omega) (by decide) dX0_dropOldest_5 (rfl) ?_
  refine lv_astore_n (lv' := [(1, .ref (B 0)), (0, .ref (a5))]) hx hb dX0_dropOldest_6 rfl hl (by decide) rfl (fun ls hl => ?_)
  refine lv_iconst (v := (nI 1)) hx hb dX0_dropOldest_7 (by decide) ?_
  refine lv_istore_n (lv' := [(2, .int (nI 1)), (1, .ref (B 0)), (0, .ref (a5))]) hx hb dX0_dropOldest_8 rfl hl (by decide) rfl (fun ls hl => ?_)
  refine lv_iload_n hx hb dX0_dropOldest_9 rfl (lv_at hl 0 rfl) ?_
  refine lv_bipush (v := (nI 6)) hx hb dX0_dropOldest_10 (by decide) ?_
  refine zn_icmp_ge (tgt := 35) hx hb dX0_dropOldest_12 (by decide) (by decide) (by decide) (fun h => absurd h (by decide)) (fun _ => ?_)
  refine lv_aload_n hx hb dX0_dropOldest_15 rfl (lv_at hl 2 rfl) ?_
  refine va_get (D := D) (ci := 0) (v := .ref (a6)) (C := RX0) (T := TX0) (N := 2) hx hb hts qX0_dropOldest_inX0 hown hK hP 0 rfl rfl 0 (by decide) (hts _ qX0_dropOldest_Cond_fieldLink_RX0_11_NestedCodes_History_states_LNestedCodes_State_) (fun _ h9 => h9) rfl dX0_dropOldest_16 ?_
  refine lv_iload_n hx hb dX0_dropOldest_19 rfl (lv_at hl 0 rfl) ?_
  refine lv_iconst (v := (nI 1)) hx hb dX0_dropOldest_20 (by decide) ?_
  refine zv_isub hx hb (v := (nI 0)) dX0_dropOldest_21 (by decide) ?_
  refine lv_aload_n hx hb dX0_dropOldest_22 rfl (lv_at hl 2 rfl) ?_
  refine va_get (D := D) (ci := 0) (v := .ref (a6)) (C := RX0) (T := TX0) (N := 2) hx hb hts qX0_dropOldest_inX0 hown hK hP 0 rfl rfl 0 (by decide) (hts _ qX0_dropOldest_Cond_fieldLink_RX0_11_NestedCodes_History_states_LNestedCodes_State_) (fun _ h9 => h9) rfl dX0_dropOldest_23 ?_
  refine lv_iload_n hx hb dX0_dropOldest_26 rfl (lv_at hl 0 rfl) ?_
  refine za_q hx hb hK hP 1 (f := (fun j => some (B (4 * j)))) (v := B 4) rfl (by omega) (by decide) dX0_dropOldest_27 (rfl) ?_
  refine zs_q hx hb hK hP hD hS 1 3 (f := (fun j => some (B (4 * j)))) rfl rfl (by omega) (by decide) dX0_dropOldest_28 (fun H locs hP hD hS => ?_)
  have hP : va_P D vwCl (HX Y a5 a6 B (va_up (fun j => some (B (4 * j))) 0 (some (B 4))) hn h) H := hP
  have hD : va_D FA (HX Y a5 a6 B (va_up (fun j => some (B (4 * j))) 0 (some (B 4))) hn h) := hD
  refine lv_iinc (v := (nI 2)) (lv' := [(2, .int (nI 2)), (1, .ref (B 0)), (0, .ref (a5))]) hx hb dX0_dropOldest_29 hl (k := 0) rfl (by decide) (by decide) rfl (fun ls hl => ?_)
  refine lv_goto (tgt := 9) hx hb dX0_dropOldest_32 (by decide) ?_
  refine lv_iload_n hx hb dX0_dropOldest_9 rfl (lv_at hl 0 rfl) ?_
  refine lv_bipush (v := (nI 6)) hx hb dX0_dropOldest_10 (by decide) ?_
  refine zn_icmp_ge (tgt := 35) hx hb dX0_dropOldest_12 (by decide) (by decide) (by decide) (fun h => absurd h (by decide)) (fun _ => ?_)
  refine lv_aload_n hx hb dX0_dropOldest_15 rfl (lv_at hl 2 rfl) ?_
  refine va_get (D := D) (ci := 0) (v := .ref (a6)) (C := RX0) (T := TX0) (N := 2) hx hb hts qX0_dropOldest_inX0 hown hK hP 0 rfl rfl 0 (by decide) (hts _ qX0_dropOldest_Cond_fieldLink_RX0_11_NestedCodes_History_states_LNestedCodes_State_) (fun _ h9 => h9) rfl dX0_dropOldest_16 ?_
  refine lv_iload_n hx hb dX0_dropOldest_19 rfl (lv_at hl 0 rfl) ?_
  refine lv_iconst (v := (nI 1)) hx hb dX0_dropOldest_20 (by decide) ?_
  refine zv_isub hx hb (v := (nI 1)) dX0_dropOldest_21 (by decide) ?_
  refine lv_aload_n hx hb dX0_dropOldest_22 rfl (lv_at hl 2 rfl) ?_
  refine va_get (D := D) (ci := 0) (v := .ref (a6)) (C := RX0) (T := TX0) (N := 2) hx hb hts qX0_dropOldest_inX0 hown hK hP 0 rfl rfl 0 (by decide) (hts _ qX0_dropOldest_Cond_fieldLink_RX0_11_NestedCodes_History_states_LNestedCodes_State_) (fun _ h9 => h9) rfl dX0_dropOldest_23 ?_
  refine lv_iload_n hx hb dX0_dropOldest_26 rfl (lv_at hl 0 rfl) ?_
  refine za_q hx hb hK hP 1 (f := (va_up (fun j => some (B (4 * j))) 0 (some (B 4)))) (v := B 8) rfl (by omega) (by decide) dX0_dropOldest_27 (rfl) ?_
  refine zs_q hx hb hK hP hD hS 1 4 (f := (va_up (fun j => some (B (4 * j))) 0 (some (B 4)))) rfl rfl (by omega) (by decide) dX0_dropOldest_28 (fun H locs hP hD hS => ?_)
  have hP : va_P D vwCl (HX Y a5 a6 B (va_up (va_up (fun j => some (B (4 * j))) 0 (some (B 4))) 1 (some (B 8))) hn h) H := hP
  have hD : va_D FA (HX Y a5 a6 B (va_up (va_up (fun j => some (B (4 * j))) 0 (some (B 4))) 1 (some (B 8))) hn h) := hD
  refine lv_iinc (v := (nI 3)) (lv' := [(2, .int (nI 3)), (1, .ref (B 0)), (0, .ref (a5))]) hx hb dX0_dropOldest_29 hl (k := 0) rfl (by decide) (by decide) rfl (fun ls hl => ?_)
  refine lv_goto (tgt := 9) hx hb dX0_dropOldest_32 (by decide) ?_
  refine lv_iload_n hx hb dX0_dropOldest_9 rfl (lv_at hl 0 rfl) ?_
  refine lv_bipush (v := (nI 6)) hx hb dX0_dropOldest_10 (by decide) ?_
  refine zn_icmp_ge (tgt := 35) hx hb dX0_dropOldest_12 (by decide) (by decide) (by decide) (fun h => absurd h (by decide)) (fun _ => ?_)
  refine lv_aload_n hx hb dX0_dropOldest_15 rfl (lv_at hl 2 rfl) ?_
  refine va_get (D := D) (ci := 0) (v := .ref (a6)) (C := RX0) (T := TX0) (N := 2) hx hb hts qX0_dropOldest_inX0 hown hK hP 0 rfl rfl 0 (by decide) (hts _ qX0_dropOldest_Cond_fieldLink_RX0_11_NestedCodes_History_states_LNestedCodes_State_) (fun _ h9 => h9) rfl dX0_dropOldest_16 ?_
  refine lv_iload_n hx hb dX0_dropOldest_19 rfl (lv_at hl 0 rfl) ?_
  refine lv_iconst (v := (nI 1)) hx hb dX0_dropOldest_20 (by decide) ?_
  refine zv_isub hx hb (v := (nI 2)) dX0_dropOldest_21 (by decide) ?_
  refine lv_aload_n hx hb dX0_dropOldest_22 rfl (lv_at hl 2 rfl) ?_
  refine va_get (D := D) (ci := 0) (v := .ref (a6)) (C := RX0) (T := TX0) (N := 2) hx hb hts qX0_dropOldest_inX0 hown hK hP 0 rfl rfl 0 (by decide) (hts _ qX0_dropOldest_Cond_fieldLink_RX0_11_NestedCodes_History_states_LNestedCodes_State_) (fun _ h9 => h9) rfl dX0_dropOldest_23 ?_
  refine lv_iload_n hx hb dX0_dropOldest_26 rfl (lv_at hl 0 rfl) ?_
  refine za_q hx hb hK hP 1 (f := (va_up (va_up (fun j => some (B (4 * j))) 0 (some (B 4))) 1 (some (B 8)))) (v := B 12) rfl (by omega) (by decide) dX0_dropOldest_27 (rfl) ?_
  refine zs_q hx hb hK hP hD hS 1 5 (f := (va_up (va_up (fun j => some (B (4 * j))) 0 (some (B 4))) 1 (some (B 8)))) rfl rfl (by omega) (by decide) dX0_dropOldest_28 (fun H locs hP hD hS => ?_)
  have hP : va_P D vwCl (HX Y a5 a6 B (va_up (va_up (va_up (fun j => some (B (4 * j))) 0 (some (B 4))) 1 (some (B 8))) 2 (some (B 12))) hn h) H := hP
  have hD : va_D FA (HX Y a5 a6 B (va_up (va_up (va_up (fun j => some (B (4 * j))) 0 (some (B 4))) 1 (some (B 8))) 2 (some (B 12))) hn h) := hD
  refine lv_iinc (v := (nI 4)) (lv' := [(2, .int (nI 4)), (1, .ref (B 0)), (0, .ref (a5))]) hx hb dX0_dropOldest_29 hl (k := 0) rfl (by decide) (by decide) rfl (fun ls hl => ?_)
  refine lv_goto (tgt := 9) hx hb dX0_dropOldest_32 (by decide) ?_
  refine lv_iload_n hx hb dX0_dropOldest_9 rfl (lv_at hl 0 rfl) ?_
  refine lv_bipush (v := (nI 6)) hx hb dX0_dropOldest_10 (by decide) ?_
  refine zn_icmp_ge (tgt := 35) hx hb dX0_dropOldest_12 (by decide) (by decide) (by decide) (fun h => absurd h (by decide)) (fun _ => ?_)
  refine lv_aload_n hx hb dX0_dropOldest_15 rfl (lv_at hl 2 rfl) ?_
  refine va_get (D := D) (ci := 0) (v := .ref (a6)) (C := RX0) (T := TX0) (N := 2) hx hb hts qX0_dropOldest_inX0 hown hK hP 0 rfl rfl 0 (by decide) (hts _ qX0_dropOldest_Cond_fieldLink_RX0_11_NestedCodes_History_states_LNestedCodes_State_) (fun _ h9 => h9) rfl dX0_dropOldest_16 ?_
  refine lv_iload_n hx hb dX0_dropOldest_19 rfl (lv_at hl 0 rfl) ?_
  refine lv_iconst (v := (nI 1)) hx hb dX0_dropOldest_20 (by decide) ?_
  refine zv_isub hx hb (v := (nI 3)) dX0_dropOldest_21 (by decide) ?_
  refine lv_aload_n hx hb dX0_dropOldest_22 rfl (lv_at hl 2 rfl) ?_
  refine va_get (D := D) (ci := 0) (v := .ref (a6)) (C := RX0) (T := TX0) (N := 2) hx hb hts qX0_dropOldest_inX0 hown hK hP 0 rfl rfl 0 (by decide) (hts _ qX0_dropOldest_Cond_fieldLink_RX0_11_NestedCodes_History_states_LNestedCodes_State_) (fun _ h9 => h9) rfl dX0_dropOldest_23 ?_
  refine lv_iload_n hx hb dX0_dropOldest_26 rfl (lv_at hl 0 rfl) ?_
  refine za_q hx hb hK hP 1 (f := (va_up (va_up (va_up (fun j => some (B (4 * j))) 0 (some (B 4))) 1 (some (B 8))) 2 (some (B 12)))) (v := B 16) rfl (by omega) (by decide) dX0_dropOldest_27 (rfl) ?_
  refine zs_q hx hb hK hP hD hS 1 6 (f := (va_up (va_up (va_up (fun j => some (B (4 * j))) 0 (some (B 4))) 1 (some (B 8))) 2 (some (B 12)))) rfl rfl (by omega) (by decide) dX0_dropOldest_28 (fun H locs hP hD hS => ?_)
  have hP : va_P D vwCl (HX Y a5 a6 B (va_up (va_up (va_up (va_up (fun j => some (B (4 * j))) 0 (some (B 4))) 1 (some (B 8))) 2 (some (B 12))) 3 (some (B 16))) hn h) H := hP
  have hD : va_D FA (HX Y a5 a6 B (va_up (va_up (va_up (va_up (fun j => some (B (4 * j))) 0 (some (B 4))) 1 (some (B 8))) 2 (some (B 12))) 3 (some (B 16))) hn h) := hD
  refine lv_iinc (v := (nI 5)) (lv' := [(2, .int (nI 5)), (1, .ref (B 0)), (0, .ref (a5))]) hx hb dX0_dropOldest_29 hl (k := 0) rfl (by decide) (by decide) rfl (fun ls hl => ?_)
  refine lv_goto (tgt := 9) hx hb dX0_dropOldest_32 (by decide) ?_
  refine lv_iload_n hx hb dX0_dropOldest_9 rfl (lv_at hl 0 rfl) ?_
  refine lv_bipush (v := (nI 6)) hx hb dX0_dropOldest_10 (by decide) ?_
  refine zn_icmp_ge (tgt := 35) hx hb dX0_dropOldest_12 (by decide) (by decide) (by decide) (fun h => absurd h (by decide)) (fun _ => ?_)
  refine lv_aload_n hx hb dX0_dropOldest_15 rfl (lv_at hl 2 rfl) ?_
  refine va_get (D := D) (ci := 0) (v := .ref (a6)) (C := RX0) (T := TX0) (N := 2) hx hb hts qX0_dropOldest_inX0 hown hK hP 0 rfl rfl 0 (by decide) (hts _ qX0_dropOldest_Cond_fieldLink_RX0_11_NestedCodes_History_states_LNestedCodes_State_) (fun _ h9 => h9) rfl dX0_dropOldest_16 ?_
  refine lv_iload_n hx hb dX0_dropOldest_19 rfl (lv_at hl 0 rfl) ?_
  refine lv_iconst (v := (nI 1)) hx hb dX0_dropOldest_20 (by decide) ?_
  refine zv_isub hx hb (v := (nI 4)) dX0_dropOldest_21 (by decide) ?_
  refine lv_aload_n hx hb dX0_dropOldest_22 rfl (lv_at hl 2 rfl) ?_
  refine va_get (D := D) (ci := 0) (v := .ref (a6)) (C := RX0) (T := TX0) (N := 2) hx hb hts qX0_dropOldest_inX0 hown hK hP 0 rfl rfl 0 (by decide) (hts _ qX0_dropOldest_Cond_fieldLink_RX0_11_NestedCodes_History_states_LNestedCodes_State_) (fun _ h9 => h9) rfl dX0_dropOldest_23 ?_
  refine lv_iload_n hx hb dX0_dropOldest_26 rfl (lv_at hl 0 rfl) ?_
  refine za_q hx hb hK hP 1 (f := (va_up (va_up (va_up (va_up (fun j => some (B (4 * j))) 0 (some (B 4))) 1 (some (B 8))) 2 (some (B 12))) 3 (some (B 16)))) (v := B 20) rfl (by omega) (by decide) dX0_dropOldest_27 (rfl) ?_
  refine zs_q hx hb hK hP hD hS 1 7 (f := (va_up (va_up (va_up (va_up (fun j => some (B (4 * j))) 0 (some (B 4))) 1 (some (B 8))) 2 (some (B 12))) 3 (some (B 16)))) rfl rfl (by omega) (by decide) dX0_dropOldest_28 (fun H locs hP hD hS => ?_)
  have hP : va_P D vwCl (HX Y a5 a6 B (va_up (va_up (va_up (va_up (va_up (fun j => some (B (4 * j))) 0 (some (B 4))) 1 (some (B 8))) 2 (some (B 12))) 3 (some (B 16))) 4 (some (B 20))) hn h) H := hP
  have hD : va_D FA (HX Y a5 a6 B (va_up (va_up (va_up (va_up (va_up (fun j => some (B (4 * j))) 0 (some (B 4))) 1 (some (B 8))) 2 (some (B 12))) 3 (some (B 16))) 4 (some (B 20))) hn h) := hD
  refine lv_iinc (v := (nI 6)) (lv' := [(2, .int (nI 6)), (1, .ref (B 0)), (0, .ref (a5))]) hx hb dX0_dropOldest_29 hl (k := 0) rfl (by decide) (by decide) rfl (fun ls hl => ?_)
  refine lv_goto (tgt := 9) hx hb dX0_dropOldest_32 (by decide) ?_
  refine lv_iload_n hx hb dX0_dropOldest_9 rfl (lv_at hl 0 rfl) ?_
  refine lv_bipush (v := (nI 6)) hx hb dX0_dropOldest_10 (by decide) ?_
  refine zn_icmp_ge (tgt := 35) hx hb dX0_dropOldest_12 (by decide) (by decide) (by decide) (fun _ => ?_) (fun h => absurd h (by decide))
  refine lv_aload_n hx hb dX0_dropOldest_35 rfl (lv_at hl 2 rfl) ?_
  refine va_get (D := D) (ci := 0) (v := .ref (a6)) (C := RX0) (T := TX0) (N := 2) hx hb hts qX0_dropOldest_inX0 hown hK hP 0 rfl rfl 0 (by decide) (hts _ qX0_dropOldest_Cond_fieldLink_RX0_11_NestedCodes_History_states_LNestedCodes_State_) (fun _ h9 => h9) rfl dX0_dropOldest_36 ?_
  refine lv_iconst (v := (nI 5)) hx hb dX0_dropOldest_39 (by decide) ?_
  refine lv_aload_n hx hb dX0_dropOldest_40 rfl (lv_at hl 1 rfl) ?_
  refine zs_q hx hb hK hP hD hS 1 2 (f := (va_up (va_up (va_up (va_up (va_up (fun j => some (B (4 * j))) 0 (some (B 4))) 1 (some (B 8))) 2 (some (B 12))) 3 (some (B 16))) 4 (some (B 20)))) rfl rfl (by omega) (by decide) dX0_dropOldest_41 (fun H locs hP hD hS => ?_)
  have hP : va_P D vwCl (HX Y a5 a6 B (va_up (va_up (va_up (va_up (va_up (va_up (fun j => some (B (4 * j))) 0 (some (B 4))) 1 (some (B 8))) 2 (some (B 12))) 3 (some (B 16))) 4 (some (B 20))) 5 (some (B 0))) hn h) H := hP
  have hD : va_D FA (HX Y a5 a6 B (va_up (va_up (va_up (va_up (va_up (va_up (fun j => some (B (4 * j))) 0 (some (B 4))) 1 (some (B 8))) 2 (some (B 12))) 3 (some (B 16))) 4 (some (B 20))) 5 (some (B 0))) hn h) := hD
  refine lv_aload_n hx hb dX0_dropOldest_42 rfl (lv_at hl 2 rfl) ?_
  refine lv_iconst (v := (nI 5)) hx hb dX0_dropOldest_43 (by decide) ?_
  refine va_put (D := D) (ci := 0) (v := .int (nI 5)) (ty := .int) (C := RX0) (T := TX0) (N := 2) hx hb hts qX0_dropOldest_inX0 tyX0 tyX0_ok nmX0 hown hK hP hD hS 0 rfl rfl 1 (by decide) (hts _ qX0_dropOldest_Cond_fieldLink_RX0_18_NestedCodes_History_size_I_) (fun _ h9 => h9) rfl (by decide +kernel) rfl rfl (Nat.le_of_ble_eq_true rfl) dX0_dropOldest_44 (fun H locs hP hD9 hS => ?_)
  have hP : va_P D vwCl (HX Y a5 a6 B (va_up (va_up (va_up (va_up (va_up (va_up (fun j => some (B (4 * j))) 0 (some (B 4))) 1 (some (B 8))) 2 (some (B 12))) 3 (some (B 16))) 4 (some (B 20))) 5 (some (B 0))) 5 h) H := hP
  have hD : va_D FA (HX Y a5 a6 B (va_up (va_up (va_up (va_up (va_up (va_up (fun j => some (B (4 * j))) 0 (some (B 4))) 1 (some (B 8))) 2 (some (B 12))) 3 (some (B 16))) 4 (some (B 20))) 5 (some (B 0))) 5 h) := zD_same hD rfl
  clear hD9
  have hP := zP_arrQ 1 (fun j => some (rotB B (4 * j))) hP rfl (fun j hj => by rcases (show j = 0 ∨ j = 1 ∨ j = 2 ∨ j = 3 ∨ j = 4 ∨ j = 5 by omega) with rfl | rfl | rfl | rfl | rfl | rfl <;> rfl)
  exact zw_v hx hb hr hlk hQ hS dX0_dropOldest_47 (hP)
theorem qX0_record_Cond_fieldLink_RX0_18_NestedCodes_History_size_I_ : Cond.fieldLink RX0 18 "NestedCodes$History" "size" "I" ∈ wsX0_record := by decide +kernel
theorem qX0_record_inX0 : ∀ w ∈ wsX00, w ∈ wsX0_record := by decide +kernel
theorem qX0_record_Cond_fieldLink_RX0_11_NestedCodes_History_states_LNestedCodes_State_ : Cond.fieldLink RX0 11 "NestedCodes$History" "states" "[LNestedCodes$State;" ∈ wsX0_record := by decide +kernel
theorem qX0_record_Cond_initialized_RX4 : Cond.initialized RX4 ∈ wsX0_record := by decide +kernel
theorem qX0_record_Cond_instanceMethod_yX4_copyFrom : Cond.instanceMethod yX4_copyFrom ∈ wsX0_record := by decide +kernel
theorem qX0_record_Cond_selects_RX4_yX4_copyFrom_yX4_copyFrom : Cond.selects RX4 yX4_copyFrom yX4_copyFrom ∈ wsX0_record := by decide +kernel
set_option maxHeartbeats 4000000 in
set_option maxRecDepth 100000 in
theorem c_X0_record_0 (l : Launch) (D : va_G) (Y : Nat → ClassId) (A : Nat → Nat) (B : Nat → Nat) (σ : Nat → Nat) (h : Nat → Nat → Nat) (wd : Nat → Nat) (dd : Nat) (r0 : Nat → Nat) (r1 : Nat → Nat) (r2 : Nat → Nat) (r3 : Nat → Nat) (r4 : Nat → Nat) (rl : Nat) (rp : Nat) (rb : Nat) (wt : Nat → Nat) (wn : Nat)    : Met l yX0_record wsX0_record ({ frames := 1, cells := 0, slots := 0, locals := 22 } : Room) (va_Pc [.ref (A 5), .ref (A 1)] (zBw D Y (CX Y A B σ 0 h wd dd r0 r1 r2 r3 r4 rl rp rb wt wn))) (zW none D (CX Y A B σ 1 (va_up h 0 σ) wd dd r0 r1 r2 r3 r4 rl rp rb wt wn) (zA (CX Y A B σ 0 h wd dd r0 r1 r2 r3 r4 rl rp rb wt wn))) 0 0 (zA (CX Y A B σ 0 h wd dd r0 r1 r2 r3 r4 rl rp rb wt wn)) := by
  refine zw_of (cc := cX0_record) (maxL := 2) (ret := none) (by decide) rfl (Nat.le_of_ble_eq_true rfl) ?_
  intro p e s m below meth c R args Q FA hR hx hb hml hr hlk hown hts hK hN hQ hP hD hS ls hl
  have hown : s.vm.findClass RX0 = some m.cls := hown
  have hl : lv_has ls 2 [(0, .ref (A 5)), (1, .ref (A 1))] := hl
  have hS := hS
  suffices hgo : ∀ (H : Heap) (locs : List Loc), va_P D vwCl (CX Y A B σ 0 h wd dd r0 r1 r2 r3 r4 rl rp rb wt wn) H → va_S FA s.heap H locs → W p l e R s m args below meth c H locs 0 0 Q (F0 m 0 ls []) from hgo _ _ hP hS
  clear hP hS
  intro H locs hP hS
  refine lv_aload_n hx hb dX0_record_0 rfl (lv_at hl 0 rfl) ?_
  refine va_get (D := D) (ci := 0) (v := .int (nI 0)) (C := RX0) (T := TX0) (N := 2) hx hb hts qX0_record_inX0 hown hK hP 5 rfl rfl 1 (by decide) (hts _ qX0_record_Cond_fieldLink_RX0_18_NestedCodes_History_size_I_) (fun _ h9 => h9) rfl dX0_record_1 ?_
  refine lv_bipush (v := (nI 6)) hx hb dX0_record_4 (by decide) ?_
  refine zn_icmp_lt (tgt := 13) hx hb dX0_record_6 (by decide) (by decide) (by decide) (fun _ => ?_) (fun h => absurd h (by decide))
  refine lv_aload_n hx hb dX0_record_13 rfl (lv_at hl 0 rfl) ?_
  refine va_get (D := D) (ci := 0) (v := .ref (A 6)) (C := RX0) (T := TX0) (N := 2) hx hb hts qX0_record_inX0 hown hK hP 5 rfl rfl 0 (by decide) (hts _ qX0_record_Cond_fieldLink_RX0_11_NestedCodes_History_states_LNestedCodes_State_) (fun _ h9 => h9) rfl dX0_record_14 ?_
  refine lv_aload_n hx hb dX0_record_17 rfl (lv_at hl 0 rfl) ?_
  refine va_get (D := D) (ci := 0) (v := .int (nI 0)) (C := RX0) (T := TX0) (N := 2) hx hb hts qX0_record_inX0 hown hK hP 5 rfl rfl 1 (by decide) (hts _ qX0_record_Cond_fieldLink_RX0_18_NestedCodes_History_size_I_) (fun _ h9 => h9) rfl dX0_record_18 ?_
  refine za_q hx hb hK hP 6 (f := fun j => some (B (4 * j))) (v := B 0) rfl (by omega) (by decide) dX0_record_21 (rfl) ?_
  refine lv_aload_n hx hb dX0_record_22 rfl (lv_at hl 1 rfl) ?_
  refine zc_w (va_runVN (C := RX4) (As := [.ref (A 1)]) (rest := []) ⟨hx, hb, hml, hown, hts⟩ (c_X4_copyFrom l D Y (fun j => B (0 + j)) (fun j => A (1 + j)) (h 0 0) (h 0 1) (h 0 2) (h 0 8) (zg (h 0)) (fun j => h 0 (9 + j)) (zL (h 0 7)) σ  ) ⟨(va_cnB 1 hts gX0_record_X4_copyFrom_n25 rfl rfl rfl (kM_X0_25 hN) (hts _ qX0_record_Cond_initialized_RX4) (by decide +kernel) (by rw [hR]; exact ⟨Nat.le_of_ble_eq_true rfl, Nat.le_of_ble_eq_true rfl⟩)), (hts _ qX0_record_Cond_instanceMethod_yX4_copyFrom), (hts _ qX0_record_Cond_selects_RX4_yX4_copyFrom_yX4_copyFrom)⟩ ⟨zBw_blind, va_recv hK hP (ci := 4) (q0 := 18) rfl rfl, (zp_w (wc := SX Y (fun j => B (0 + j)) (fun j => A (1 + j)) (h 0 0) (h 0 1) (h 0 2) (h 0 8) (zg (h 0)) (fun j => h 0 (9 + j)) (zL (h 0 7)) σ) (hP.sub (ws' := SX Y (fun j => B (0 + j)) (fun j => A (1 + j)) (h 0 0) (h 0 1) (h 0 2) (h 0 8) (zg (h 0)) (fun j => h 0 (9 + j)) (zL (h 0 7)) σ) [18, 19, 20, 21, 1, 2, 3, 4] rfl) (hD.sub (ws' := SX Y (fun j => B (0 + j)) (fun j => A (1 + j)) (h 0 0) (h 0 1) (h 0 2) (h 0 8) (zg (h 0)) (fun j => h 0 (9 + j)) (zL (h 0 7)) σ) [18, 19, 20, 21, 1, 2, 3, 4] (by decide) rfl) hK hN)⟩ rfl rfl hl.1 rfl (lv_room (Nat.le_of_ble_eq_true rfl)) dX0_record_23 ⟨Nat.zero_le _, Nat.zero_le _⟩).run hS (zA_of (hD.sub (ws' := SX Y (fun j => B (0 + j)) (fun j => A (1 + j)) (h 0 0) (h 0 1) (h 0 2) (h 0 8) (zg (h 0)) (fun j => h 0 (9 + j)) (zL (h 0 7)) σ) [18, 19, 20, 21, 1, 2, 3, 4] (by decide) rfl)) (fun H1 locs hP1 hz hk hS => ?_)
  have hP := z_put (wc := SX Y (fun j => B (0 + j)) (fun j => A (1 + j)) (h 0 0) (h 0 1) (h 0 2) (h 0 8) (zg (h 0)) (fun j => h 0 (9 + j)) (zL (h 0 7)) σ) (w1 := SX Y (fun j => B (0 + j)) (fun j => A (1 + j)) (σ 0) (σ 1) (σ 2) (σ 8) (zg σ) (fun j => σ (9 + j)) (zL (σ 7)) σ) hP hD [18, 19, 20, 21, 1, 2, 3, 4] rfl hk hP1 rfl
  clear hP1 hk
  generalize H1 = H at hP hS hz ⊢
  have hP : va_P D vwCl (CX Y A B σ 0 (va_up h 0 σ) wd dd r0 r1 r2 r3 r4 rl rp rb wt wn) H := hP
  have hD : va_D FA (CX Y A B σ 0 (va_up h 0 σ) wd dd r0 r1 r2 r3 r4 rl rp rb wt wn) := CX_dd hD
  refine lv_aload_n hx hb dX0_record_26 rfl (lv_at hl 0 rfl) ?_
  refine lv_dup hx hb dX0_record_27 rfl ?_
  refine va_get (D := D) (ci := 0) (v := .int (nI 0)) (C := RX0) (T := TX0) (N := 2) hx hb hts qX0_record_inX0 hown hK hP 5 rfl rfl 1 (by decide) (hts _ qX0_record_Cond_fieldLink_RX0_18_NestedCodes_History_size_I_) (fun _ h9 => h9) rfl dX0_record_28 ?_
  refine lv_iconst (v := (nI 1)) hx hb dX0_record_31 (by decide) ?_
  refine zv_iadd hx hb (v := (nI 1)) dX0_record_32 (by decide) ?_
  refine va_put (D := D) (ci := 0) (v := .int (nI 1)) (ty := .int) (C := RX0) (T := TX0) (N := 2) hx hb hts qX0_record_inX0 tyX0 tyX0_ok nmX0 hown hK hP hD hS 5 rfl rfl 1 (by decide) (hts _ qX0_record_Cond_fieldLink_RX0_18_NestedCodes_History_size_I_) (fun _ h9 => h9) rfl (by decide +kernel) rfl rfl (Nat.le_of_ble_eq_true rfl) dX0_record_33 (fun H locs hP hD9 hS => ?_)
  rw [CX_f_hn] at hP
  have hP : va_P D vwCl (CX Y A B σ 1 (va_up h 0 σ) wd dd r0 r1 r2 r3 r4 rl rp rb wt wn) H := hP
  have hD : va_D FA (CX Y A B σ 1 (va_up h 0 σ) wd dd r0 r1 r2 r3 r4 rl rp rb wt wn) := CX_dd hD
  clear hD9
  exact zw_v hx hb hr hlk hQ hS dX0_record_36 (hP)
set_option maxHeartbeats 4000000 in
set_option maxRecDepth 100000 in
theorem c_X0_record_1 (l : Launch) (D : va_G) (Y : Nat → ClassId) (A : Nat → Nat) (B : Nat → Nat) (σ : Nat → Nat) (h : Nat → Nat → Nat) (wd : Nat → Nat) (dd : Nat) (r0 : Nat → Nat) (r1 : Nat → Nat) (r2 : Nat → Nat) (r3 : Nat → Nat) (r4 : Nat → Nat) (rl : Nat) (rp : Nat) (rb : Nat) (wt : Nat → Nat) (wn : Nat)    : Met l yX0_record wsX0_record ({ frames := 1, cells := 0, slots := 0, locals := 22 } : Room) (va_Pc [.ref (A 5), .ref (A 1)] (zBw D Y (CX Y A B σ 1 h wd dd r0 r1 r2 r3 r4 rl rp rb wt wn))) (zW none D (CX Y A B σ 2 (va_up h 1 σ) wd dd r0 r1 r2 r3 r4 rl rp rb wt wn) (zA (CX Y A B σ 1 h wd dd r0 r1 r2 r3 r4 rl rp rb wt wn))) 0 0 (zA (CX Y A B σ 1 h wd dd r0 r1 r2 r3 r4 rl rp rb wt wn)) := by
  refine zw_of (cc := cX0_record) (maxL := 2) (ret := none) (by decide) rfl (Nat.le_of_ble_eq_true rfl) ?_
  intro p e s m below meth c R args Q FA hR hx hb hml hr hlk hown hts hK hN hQ hP hD hS ls hl
  have hown : s.vm.findClass RX0 = some m.cls := hown
  have hl : lv_has ls 2 [(0, .ref (A 5)), (1, .ref (A 1))] := hl
  have hS := hS
  suffices hgo : ∀ (H : Heap) (locs : List Loc), va_P D vwCl (CX Y A B σ 1 h wd dd r0 r1 r2 r3 r4 rl rp rb wt wn) H → va_S FA s.heap H locs → W p l e R s m args below meth c H locs 0 0 Q (F0 m 0 ls []) from hgo _ _ hP hS
  clear hP hS
  intro H locs hP hS
  refine lv_aload_n hx hb dX0_record_0 rfl (lv_at hl 0 rfl) ?_
  refine va_get (D := D) (ci := 0) (v := .int (nI 1)) (C := RX0) (T := TX0) (N := 2) hx hb hts qX0_record_inX0 hown hK hP 5 rfl rfl 1 (by decide) (hts _ qX0_record_Cond_fieldLink_RX0_18_NestedCodes_History_size_I_) (fun _ h9 => h9) rfl dX0_record_1 ?_
  refine lv_bipush (v := (nI 6)) hx hb dX0_record_4 (by decide) ?_
  refine zn_icmp_lt (tgt := 13) hx hb dX0_record_6 (by decide) (by decide) (by decide) (fun _ => ?_) (fun h => absurd h (by decide))
  refine lv_aload_n hx hb dX0_record_13 rfl (lv_at hl 0 rfl) ?_
  refine va_get (D := D) (ci := 0) (v := .ref (A 6)) (C := RX0) (T := TX0) (N := 2) hx hb hts qX0_record_inX0 hown hK hP 5 rfl rfl 0 (by decide) (hts _ qX0_record_Cond_fieldLink_RX0_11_NestedCodes_History_states_LNestedCodes_State_) (fun _ h9 => h9) rfl dX0_record_14 ?_
  refine lv_aload_n hx hb dX0_record_17 rfl (lv_at hl 0 rfl) ?_
  refine va_get (D := D) (ci := 0) (v := .int (nI 1)) (C := RX0) (T := TX0) (N := 2) hx hb hts qX0_record_inX0 hown hK hP 5 rfl rfl 1 (by decide) (hts _ qX0_record_Cond_fieldLink_RX0_18_NestedCodes_History_size_I_) (fun _ h9 => h9) rfl dX0_record_18 ?_
  refine za_q hx hb hK hP 6 (f := fun j => some (B (4 * j))) (v := B 4) rfl (by omega) (by decide) dX0_record_21 (rfl) ?_
  refine lv_aload_n hx hb dX0_record_22 rfl (lv_at hl 1 rfl) ?_
  refine zc_w (va_runVN (C := RX4) (As := [.ref (A 1)]) (rest := []) ⟨hx, hb, hml, hown, hts⟩ (c_X4_copyFrom l D Y (fun j => B (4 + j)) (fun j => A (1 + j)) (h 1 0) (h 1 1) (h 1 2) (h 1 8) (zg (h 1)) (fun j => h 1 (9 + j)) (zL (h 1 7)) σ  ) ⟨(va_cnB 1 hts gX0_record_X4_copyFrom_n25 rfl rfl rfl (kM_X0_25 hN) (hts _ qX0_record_Cond_initialized_RX4) (by decide +kernel) (by rw [hR]; exact ⟨Nat.le_of_ble_eq_true rfl, Nat.le_of_ble_eq_true rfl⟩)), (hts _ qX0_record_Cond_instanceMethod_yX4_copyFrom), (hts _ qX0_record_Cond_selects_RX4_yX4_copyFrom_yX4_copyFrom)⟩ ⟨zBw_blind, va_recv hK hP (ci := 4) (q0 := 22) rfl rfl, (zp_w (wc := SX Y (fun j => B (4 + j)) (fun j => A (1 + j)) (h 1 0) (h 1 1) (h 1 2) (h 1 8) (zg (h 1)) (fun j => h 1 (9 + j)) (zL (h 1 7)) σ) (hP.sub (ws' := SX Y (fun j => B (4 + j)) (fun j => A (1 + j)) (h 1 0) (h 1 1) (h 1 2) (h 1 8) (zg (h 1)) (fun j => h 1 (9 + j)) (zL (h 1 7)) σ) [22, 23, 24, 25, 1, 2, 3, 4] rfl) (hD.sub (ws' := SX Y (fun j => B (4 + j)) (fun j => A (1 + j)) (h 1 0) (h 1 1) (h 1 2) (h 1 8) (zg (h 1)) (fun j => h 1 (9 + j)) (zL (h 1 7)) σ) [22, 23, 24, 25, 1, 2, 3, 4] (by decide) rfl) hK hN)⟩ rfl rfl hl.1 rfl (lv_room (Nat.le_of_ble_eq_true rfl)) dX0_record_23 ⟨Nat.zero_le _, Nat.zero_le _⟩).run hS (zA_of (hD.sub (ws' := SX Y (fun j => B (4 + j)) (fun j => A (1 + j)) (h 1 0) (h 1 1) (h 1 2) (h 1 8) (zg (h 1)) (fun j => h 1 (9 + j)) (zL (h 1 7)) σ) [22, 23, 24, 25, 1, 2, 3, 4] (by decide) rfl)) (fun H1 locs hP1 hz hk hS => ?_)
  have hP := z_put (wc := SX Y (fun j => B (4 + j)) (fun j => A (1 + j)) (h 1 0) (h 1 1) (h 1 2) (h 1 8) (zg (h 1)) (fun j => h 1 (9 + j)) (zL (h 1 7)) σ) (w1 := SX Y (fun j => B (4 + j)) (fun j => A (1 + j)) (σ 0) (σ 1) (σ 2) (σ 8) (zg σ) (fun j => σ (9 + j)) (zL (σ 7)) σ) hP hD [22, 23, 24, 25, 1, 2, 3, 4] rfl hk hP1 rfl
  clear hP1 hk
  generalize H1 = H at hP hS hz ⊢
  have hP : va_P D vwCl (CX Y A B σ 1 (va_up h 1 σ) wd dd r0 r1 r2 r3 r4 rl rp rb wt wn) H := hP
  have hD : va_D FA (CX Y A B σ 1 (va_up h 1 σ) wd dd r0 r1 r2 r3 r4 rl rp rb wt wn) := CX_dd hD
  refine lv_aload_n hx hb dX0_record_26 rfl (lv_at hl 0 rfl) ?_
  refine lv_dup hx hb dX0_record_27 rfl ?_
  refine va_get (D := D) (ci := 0) (v := .int (nI 1)) (C := RX0) (T := TX0) (N := 2) hx hb hts qX0_record_inX0 hown hK hP 5 rfl rfl 1 (by decide) (hts _ qX0_record_Cond_fieldLink_RX0_18_NestedCodes_History_size_I_) (fun _ h9 => h9) rfl dX0_record_28 ?_
  refine lv_iconst (v := (nI 1)) hx hb dX0_record_31 (by decide) ?_
  refine zv_iadd hx hb (v := (nI 2)) dX0_record_32 (by decide) ?_
  refine va_put (D := D) (ci := 0) (v := .int (nI 2)) (ty := .int) (C := RX0) (T := TX0) (N := 2) hx hb hts qX0_record_inX0 tyX0 tyX0_ok nmX0 hown hK hP hD hS 5 rfl rfl 1 (by decide) (hts _ qX0_record_Cond_fieldLink_RX0_18_NestedCodes_History_size_I_) (fun _ h9 => h9) rfl (by decide +kernel) rfl rfl (Nat.le_of_ble_eq_true rfl) dX0_record_33 (fun H locs hP hD9 hS => ?_)
  rw [CX_f_hn] at hP
  have hP : va_P D vwCl (CX Y A B σ 2 (va_up h 1 σ) wd dd r0 r1 r2 r3 r4 rl rp rb wt wn) H := hP
  have hD : va_D FA (CX Y A B σ 2 (va_up h 1 σ) wd dd r0 r1 r2 r3 r4 rl rp rb wt wn) := CX_dd hD
  clear hD9
  exact zw_v hx hb hr hlk hQ hS dX0_record_36 (hP)
set_option maxHeartbeats 4000000 in
set_option maxRecDepth 100000 in
theorem c_X0_record_2 (l : Launch) (D : va_G) (Y : Nat → ClassId) (A : Nat → Nat) (B : Nat → Nat) (σ : Nat → Nat) (h : Nat → Nat → Nat) (wd : Nat → Nat) (dd : Nat) (r0 : Nat → Nat) (r1 : Nat → Nat) (r2 : Nat → Nat) (r3 : Nat → Nat) (r4 : Nat → Nat) (rl : Nat) (rp : Nat) (rb : Nat) (wt : Nat → Nat) (wn : Nat)    : Met l yX0_record wsX0_record ({ frames := 1, cells := 0, slots := 0, locals := 22 } : Room) (va_Pc [.ref (A 5), .ref (A 1)] (zBw D Y (CX Y A B σ 2 h wd dd r0 r1 r2 r3 r4 rl rp rb wt wn))) (zW none D (CX Y A B σ 3 (va_up h 2 σ) wd dd r0 r1 r2 r3 r4 rl rp rb wt wn) (zA (CX Y A B σ 2 h wd dd r0 r1 r2 r3 r4 rl rp rb wt wn))) 0 0 (zA (CX Y A B σ 2 h wd dd r0 r1 r2 r3 r4 rl rp rb wt wn)) := by
  refine zw_of (cc := cX0_record) (maxL := 2) (ret := none) (by decide) rfl (Nat.le_of_ble_eq_true rfl) ?_
  intro p e s m below meth c R args Q FA hR hx hb hml hr hlk hown hts hK hN hQ hP hD hS ls hl
  have hown : s.vm.findClass RX0 = some m.cls := hown
  have hl : lv_has ls 2 [(0, .ref (A 5)), (1, .ref (A 1))] := hl
  have hS := hS
  suffices hgo : ∀ (H : Heap) (locs : List Loc), va_P D vwCl (CX Y A B σ 2 h wd dd r0 r1 r2 r3 r4 rl rp rb wt wn) H → va_S FA s.heap H locs → W p l e R s m args below meth c H locs 0 0 Q (F0 m 0 ls []) from hgo _ _ hP hS
  clear hP hS
  intro H locs hP hS
  refine lv_aload_n hx hb dX0_record_0 rfl (lv_at hl 0 rfl) ?_
  refine va_get (D := D) (ci := 0) (v := .int (nI 2)) (C := RX0) (T := TX0) (N := 2) hx hb hts qX0_record_inX0 hown hK hP 5 rfl rfl 1 (by decide) (hts _ qX0_record_Cond_fieldLink_RX0_18_NestedCodes_History_size_I_) (fun _ h9 => h9) rfl dX0_record_1 ?_
  refine lv_bipush (v := (nI 6)) hx hb dX0_record_4 (by decide) ?_
  refine zn_icmp_lt (tgt := 13) hx hb dX0_record_6 (by decide) (by decide) (by decide) (fun _ => ?_) (fun h => absurd h (by decide))
  refine lv_aload_n hx hb dX0_record_13 rfl (lv_at hl 0 rfl) ?_
  refine va_get (D := D) (ci := 0) (v := .ref (A 6)) (C := RX0) (T := TX0) (N := 2) hx hb hts qX0_record_inX0 hown hK hP 5 rfl rfl 0 (by decide) (hts _ qX0_record_Cond_fieldLink_RX0_11_NestedCodes_History_states_LNestedCodes_State_) (fun _ h9 => h9) rfl dX0_record_14 ?_
  refine lv_aload_n hx hb dX0_record_17 rfl (lv_at hl 0 rfl) ?_
  refine va_get (D := D) (ci := 0) (v := .int (nI 2)) (C := RX0) (T := TX0) (N := 2) hx hb hts qX0_record_inX0 hown hK hP 5 rfl rfl 1 (by decide) (hts _ qX0_record_Cond_fieldLink_RX0_18_NestedCodes_History_size_I_) (fun _ h9 => h9) rfl dX0_record_18 ?_
  refine za_q hx hb hK hP 6 (f := fun j => some (B (4 * j))) (v := B 8) rfl (by omega) (by decide) dX0_record_21 (rfl) ?_
  refine lv_aload_n hx hb dX0_record_22 rfl (lv_at hl 1 rfl) ?_
  refine zc_w (va_runVN (C := RX4) (As := [.ref (A 1)]) (rest := []) ⟨hx, hb, hml, hown, hts⟩ (c_X4_copyFrom l D Y (fun j => B (8 + j)) (fun j => A (1 + j)) (h 2 0) (h 2 1) (h 2 2) (h 2 8) (zg (h 2)) (fun j => h 2 (9 + j)) (zL (h 2 7)) σ  ) ⟨(va_cnB 1 hts gX0_record_X4_copyFrom_n25 rfl rfl rfl (kM_X0_25 hN) (hts _ qX0_record_Cond_initialized_RX4) (by decide +kernel) (by rw [hR]; exact ⟨Nat.le_of_ble_eq_true rfl, Nat.le_of_ble_eq_true rfl⟩)), (hts _ qX0_record_Cond_instanceMethod_yX4_copyFrom), (hts _ qX0_record_Cond_selects_RX4_yX4_copyFrom_yX4_copyFrom)⟩ ⟨zBw_blind, va_recv hK hP (ci := 4) (q0 := 26) rfl rfl, (zp_w (wc := SX Y (fun j => B (8 + j)) (fun j => A (1 + j)) (h 2 0) (h 2 1) (h 2 2) (h 2 8) (zg (h 2)) (fun j => h 2 (9 + j)) (zL (h 2 7)) σ) (hP.sub (ws' := SX Y (fun j => B (8 + j)) (fun j => A (1 + j)) (h 2 0) (h 2 1) (h 2 2) (h 2 8) (zg (h 2)) (fun j => h 2 (9 + j)) (zL (h 2 7)) σ) [26, 27, 28, 29, 1, 2, 3, 4] rfl) (hD.sub (ws' := SX Y (fun j => B (8 + j)) (fun j => A (1 + j)) (h 2 0) (h 2 1) (h 2 2) (h 2 8) (zg (h 2)) (fun j => h 2 (9 + j)) (zL (h 2 7)) σ) [26, 27, 28, 29, 1, 2, 3, 4] (by decide) rfl) hK hN)⟩ rfl rfl hl.1 rfl (lv_room (Nat.le_of_ble_eq_true rfl)) dX0_record_23 ⟨Nat.zero_le _, Nat.zero_le _⟩).run hS (zA_of (hD.sub (ws' := SX Y (fun j => B (8 + j)) (fun j => A (1 + j)) (h 2 0) (h 2 1) (h 2 2) (h 2 8) (zg (h 2)) (fun j => h 2 (9 + j)) (zL (h 2 7)) σ) [26, 27, 28, 29, 1, 2, 3, 4] (by decide) rfl)) (fun H1 locs hP1 hz hk hS => ?_)
  have hP := z_put (wc := SX Y (fun j => B (8 + j)) (fun j => A (1 + j)) (h 2 0) (h 2 1) (h 2 2) (h 2 8) (zg (h 2)) (fun j => h 2 (9 + j)) (zL (h 2 7)) σ) (w1 := SX Y (fun j => B (8 + j)) (fun j => A (1 + j)) (σ 0) (σ 1) (σ 2) (σ 8) (zg σ) (fun j => σ (9 + j)) (zL (σ 7)) σ) hP hD [26, 27, 28, 29, 1, 2, 3, 4] rfl hk hP1 rfl
  clear hP1 hk
  generalize H1 = H at hP hS hz ⊢
  have hP : va_P D vwCl (CX Y A B σ 2 (va_up h 2 σ) wd dd r0 r1 r2 r3 r4 rl rp rb wt wn) H := hP
  have hD : va_D FA (CX Y A B σ 2 (va_up h 2 σ) wd dd r0 r1 r2 r3 r4 rl rp rb wt wn) := CX_dd hD
  refine lv_aload_n hx hb dX0_record_26 rfl (lv_at hl 0 rfl) ?_
  refine lv_dup hx hb dX0_record_27 rfl ?_
  refine va_get (D := D) (ci := 0) (v := .int (nI 2)) (C := RX0) (T := TX0) (N := 2) hx hb hts qX0_record_inX0 hown hK hP 5 rfl rfl 1 (by decide) (hts _ qX0_record_Cond_fieldLink_RX0_18_NestedCodes_History_size_I_) (fun _ h9 => h9) rfl dX0_record_28 ?_
  refine lv_iconst (v := (nI 1)) hx hb dX0_record_31 (by decide) ?_
  refine zv_iadd hx hb (v := (nI 3)) dX0_record_32 (by decide) ?_
  refine va_put (D := D) (ci := 0) (v := .int (nI 3)) (ty := .int) (C := RX0) (T := TX0) (N := 2) hx hb hts qX0_record_inX0 tyX0 tyX0_ok nmX0 hown hK hP hD hS 5 rfl rfl 1 (by decide) (hts _ qX0_record_Cond_fieldLink_RX0_18_NestedCodes_History_size_I_) (fun _ h9 => h9) rfl (by decide +kernel) rfl rfl (Nat.le_of_ble_eq_true rfl) dX0_record_33 (fun H locs hP hD9 hS => ?_)
  rw [CX_f_hn] at hP
  have hP : va_P D vwCl (CX Y A B σ 3 (va_up h 2 σ) wd dd r0 r1 r2 r3 r4 rl rp rb wt wn) H := hP
  have hD : va_D FA (CX Y A B σ 3 (va_up h 2 σ) wd dd r0 r1 r2 r3 r4 rl rp rb wt wn) := CX_dd hD
  clear hD9
  exact zw_v hx hb hr hlk hQ hS dX0_record_36 (hP)
set_option maxHeartbeats 4000000 in
set_option maxRecDepth 100000 in
theorem c_X0_record_3 (l : Launch) (D : va_G) (Y : Nat → ClassId) (A : Nat → Nat) (B : Nat → Nat) (σ : Nat → Nat) (h : Nat → Nat → Nat) (wd : Nat → Nat) (dd : Nat) (r0 : Nat → Nat) (r1 : Nat → Nat) (r2 : Nat → Nat) (r3 : Nat → Nat) (r4 : Nat → Nat) (rl : Nat) (rp : Nat) (rb : Nat) (wt : Nat → Nat) (wn : Nat)    : Met l yX0_record wsX0_record ({ frames := 1, cells := 0, slots := 0, locals := 22 } : Room) (va_Pc [.ref (A 5), .ref (A 1)] (zBw D Y (CX Y A B σ 3 h wd dd r0 r1 r2 r3 r4 rl rp rb wt wn))) (zW none D (CX Y A B σ 4 (va_up h 3 σ) wd dd r0 r1 r2 r3 r4 rl rp rb wt wn) (zA (CX Y A B σ 3 h wd dd r0 r1 r2 r3 r4 rl rp rb wt wn))) 0 0 (zA (CX Y A B σ 3 h wd dd r0 r1 r2 r3 r4 rl rp rb wt wn)) := by
  refine zw_of (cc := cX0_record) (maxL := 2) (ret := none) (by decide) rfl (Nat.le_of_ble_eq_true rfl) ?_
  intro p e s m below meth c R args Q FA hR hx hb hml hr hlk hown hts hK hN hQ hP hD hS ls hl
  have hown : s.vm.findClass RX0 = some m.cls := hown
  have hl : lv_has ls 2 [(0, .ref (A 5)), (1, .ref (A 1))] := hl
  have hS := hS
  suffices hgo : ∀ (H : Heap) (locs : List Loc), va_P D vwCl (CX Y A B σ 3 h wd dd r0 r1 r2 r3 r4 rl rp rb wt wn) H → va_S FA s.heap H locs → W p l e R s m args below meth c H locs 0 0 Q (F0 m 0 ls []) from hgo _ _ hP hS
  clear hP hS
  intro H locs hP hS
  refine lv_aload_n hx hb dX0_record_0 rfl (lv_at hl 0 rfl) ?_
  refine va_get (D := D) (ci := 0) (v := .int (nI 3)) (C := RX0) (T := TX0) (N := 2) hx hb hts qX0_record_inX0 hown hK hP 5 rfl rfl 1 (by decide) (hts _ qX0_record_Cond_fieldLink_RX0_18_NestedCodes_History_size_I_) (fun _ h9 => h9) rfl dX0_record_1 ?_
  refine lv_bipush (v := (nI 6)) hx hb dX0_record_4 (by decide) ?_
  refine zn_icmp_lt (tgt := 13) hx hb dX0_record_6 (by decide) (by decide) (by decide) (fun _ => ?_) (fun h => absurd h (by decide))
  refine lv_aload_n hx hb dX0_record_13 rfl (lv_at hl 0 rfl) ?_
  refine va_get (D := D) (ci := 0) (v := .ref (A 6)) (C := RX0) (T := TX0) (N := 2) hx hb hts qX0_record_inX0 hown hK hP 5 rfl rfl 0 (by decide) (hts _ qX0_record_Cond_fieldLink_RX0_11_NestedCodes_History_states_LNestedCodes_State_) (fun _ h9 => h9) rfl dX0_record_14 ?_
  refine lv_aload_n hx hb dX0_record_17 rfl (lv_at hl 0 rfl) ?_
  refine va_get (D := D) (ci := 0) (v := .int (nI 3)) (C := RX0) (T := TX0) (N := 2) hx hb hts qX0_record_inX0 hown hK hP 5 rfl rfl 1 (by decide) (hts _ qX0_record_Cond_fieldLink_RX0_18_NestedCodes_History_size_I_) (fun _ h9 => h9) rfl dX0_record_18 ?_
  refine za_q hx hb hK hP 6 (f := fun j => some (B (4 * j))) (v := B 12) rfl (by omega) (by decide) dX0_record_21 (rfl) ?_
  refine lv_aload_n hx hb dX0_record_22 rfl (lv_at hl 1 rfl) ?_
  refine zc_w (va_runVN (C := RX4) (As := [.ref (A 1)]) (rest := []) ⟨hx, hb, hml, hown, hts⟩ (c_X4_copyFrom l D Y (fun j => B (12 + j)) (fun j => A (1 + j)) (h 3 0) (h 3 1) (h 3 2) (h 3 8) (zg (h 3)) (fun j => h 3 (9 + j)) (zL (h 3 7)) σ  ) ⟨(va_cnB 1 hts gX0_record_X4_copyFrom_n25 rfl rfl rfl (kM_X0_25 hN) (hts _ qX0_record_Cond_initialized_RX4) (by decide +kernel) (by rw [hR]; exact ⟨Nat.le_of_ble_eq_true rfl, Nat.le_of_ble_eq_true rfl⟩)), (hts _ qX0_record_Cond_instanceMethod_yX4_copyFrom), (hts _ qX0_record_Cond_selects_RX4_yX4_copyFrom_yX4_copyFrom)⟩ ⟨zBw_blind, va_recv hK hP (ci := 4) (q0 := 30) rfl rfl, (zp_w (wc := SX Y (fun j => B (12 + j)) (fun j => A (1 + j)) (h 3 0) (h 3 1) (h 3 2) (h 3 8) (zg (h 3)) (fun j => h 3 (9 + j)) (zL (h 3 7)) σ) (hP.sub (ws' := SX Y (fun j => B (12 + j)) (fun j => A (1 + j)) (h 3 0) (h 3 1) (h 3 2) (h 3 8) (zg (h 3)) (fun j => h 3 (9 + j)) (zL (h 3 7)) σ) [30, 31, 32, 33, 1, 2, 3, 4] rfl) (hD.sub (ws' := SX Y (fun j => B (12 + j)) (fun j => A (1 + j)) (h 3 0) (h 3 1) (h 3 2) (h 3 8) (zg (h 3)) (fun j => h 3 (9 + j)) (zL (h 3 7)) σ) [30, 31, 32, 33, 1, 2, 3, 4] (by decide) rfl) hK hN)⟩ rfl rfl hl.1 rfl (lv_room (Nat.le_of_ble_eq_true rfl)) dX0_record_23 ⟨Nat.zero_le _, Nat.zero_le _⟩).run hS (zA_of (hD.sub (ws' := SX Y (fun j => B (12 + j)) (fun j => A (1 + j)) (h 3 0) (h 3 1) (h 3 2) (h 3 8) (zg (h 3)) (fun j => h 3 (9 + j)) (zL (h 3 7)) σ) [30, 31, 32, 33, 1, 2, 3, 4] (by decide) rfl)) (fun H1 locs hP1 hz hk hS => ?_)
  have hP := z_put (wc := SX Y (fun j => B (12 + j)) (fun j => A (1 + j)) (h 3 0) (h 3 1) (h 3 2) (h 3 8) (zg (h 3)) (fun j => h 3 (9 + j)) (zL (h 3 7)) σ) (w1 := SX Y (fun j => B (12 + j)) (fun j => A (1 + j)) (σ 0) (σ 1) (σ 2) (σ 8) (zg σ) (fun j => σ (9 + j)) (zL (σ 7)) σ) hP hD [30, 31, 32, 33, 1, 2, 3, 4] rfl hk hP1 rfl
  clear hP1 hk
  generalize H1 = H at hP hS hz ⊢
  have hP : va_P D vwCl (CX Y A B σ 3 (va_up h 3 σ) wd dd r0 r1 r2 r3 r4 rl rp rb wt wn) H := hP
  have hD : va_D FA (CX Y A B σ 3 (va_up h 3 σ) wd dd r0 r1 r2 r3 r4 rl rp rb wt wn) := CX_dd hD
  refine lv_aload_n hx hb dX0_record_26 rfl (lv_at hl 0 rfl) ?_
  refine lv_dup hx hb dX0_record_27 rfl ?_
  refine va_get (D := D) (ci := 0) (v := .int (nI 3)) (C := RX0) (T := TX0) (N := 2) hx hb hts qX0_record_inX0 hown hK hP 5 rfl rfl 1 (by decide) (hts _ qX0_record_Cond_fieldLink_RX0_18_NestedCodes_History_size_I_) (fun _ h9 => h9) rfl dX0_record_28 ?_
  refine lv_iconst (v := (nI 1)) hx hb dX0_record_31 (by decide) ?_
  refine zv_iadd hx hb (v := (nI 4)) dX0_record_32 (by decide) ?_
  refine va_put (D := D) (ci := 0) (v := .int (nI 4)) (ty := .int) (C := RX0) (T := TX0) (N := 2) hx hb hts qX0_record_inX0 tyX0 tyX0_ok nmX0 hown hK hP hD hS 5 rfl rfl 1 (by decide) (hts _ qX0_record_Cond_fieldLink_RX0_18_NestedCodes_History_size_I_) (fun _ h9 => h9) rfl (by decide +kernel) rfl rfl (Nat.le_of_ble_eq_true rfl) dX0_record_33 (fun H locs hP hD9 hS => ?_)
  rw [CX_f_hn] at hP
  have hP : va_P D vwCl (CX Y A B σ 4 (va_up h 3 σ) wd dd r0 r1 r2 r3 r4 rl rp rb wt wn) H := hP
  have hD : va_D FA (CX Y A B σ 4 (va_up h 3 σ) wd dd r0 r1 r2 r3 r4 rl rp rb wt wn) := CX_dd hD
  clear hD9
  exact zw_v hx hb hr hlk hQ hS dX0_record_36 (hP)
set_option maxHeartbeats 4000000 in
set_option maxRecDepth 100000 in
theorem c_X0_record_4 (l : Launch) (D : va_G) (Y : Nat → ClassId) (A : Nat → Nat) (B : Nat → Nat) (σ : Nat → Nat) (h : Nat → Nat → Nat) (wd : Nat → Nat) (dd : Nat) (r0 : Nat → Nat) (r1 : Nat → Nat) (r2 : Nat → Nat) (r3 : Nat → Nat) (r4 : Nat → Nat) (rl : Nat) (rp : Nat) (rb : Nat) (wt : Nat → Nat) (wn : Nat)    : Met l yX0_record wsX0_record ({ frames := 1, cells := 0, slots := 0, locals := 22 } : Room) (va_Pc [.ref (A 5), .ref (A 1)] (zBw D Y (CX Y A B σ 4 h wd dd r0 r1 r2 r3 r4 rl rp rb wt wn))) (zW none D (CX Y A B σ 5 (va_up h 4 σ) wd dd r0 r1 r2 r3 r4 rl rp rb wt wn) (zA (CX Y A B σ 4 h wd dd r0 r1 r2 r3 r4 rl rp rb wt wn))) 0 0 (zA (CX Y A B σ 4 h wd dd r0 r1 r2 r3 r4 rl rp rb wt wn)) := by
  refine zw_of (cc := cX0_record) (maxL := 2) (ret := none) (by decide) rfl (Nat.le_of_ble_eq_true rfl) ?_
  intro p e s m below meth c R args Q FA hR hx hb hml hr hlk hown hts hK hN hQ hP hD hS ls hl
  have hown : s.vm.findClass RX0 = some m.cls := hown
  have hl : lv_has ls 2 [(0, .ref (A 5)), (1, .ref (A 1))] := hl
  have hS := hS
  suffices hgo : ∀ (H : Heap) (locs : List Loc), va_P D vwCl (CX Y A B σ 4 h wd dd r0 r1 r2 r3 r4 rl rp rb wt wn) H → va_S FA s.heap H locs → W p l e R s m args below meth c H locs 0 0 Q (F0 m 0 ls []) from hgo _ _ hP hS
  clear hP hS
  intro H locs hP hS
  refine lv_aload_n hx hb dX0_record_0 rfl (lv_at hl 0 rfl) ?_
  refine va_get (D := D) (ci := 0) (v := .int (nI 4)) (C := RX0) (T := TX0) (N := 2) hx hb hts qX0_record_inX0 hown hK hP 5 rfl rfl 1 (by decide) (hts _ qX0_record_Cond_fieldLink_RX0_18_NestedCodes_History_size_I_) (fun _ h9 => h9) rfl dX0_record_1 ?_
  refine lv_bipush (v := (nI 6)) hx hb dX0_record_4 (by decide) ?_
  refine zn_icmp_lt (tgt := 13) hx hb dX0_record_6 (by decide) (by decide) (by decide) (fun _ => ?_) (fun h => absurd h (by decide))
  refine lv_aload_n hx hb dX0_record_13 rfl (lv_at hl 0 rfl) ?_
  refine va_get (D := D) (ci := 0) (v := .ref (A 6)) (C := RX0) (T := TX0) (N := 2) hx hb hts qX0_record_inX0 hown hK hP 5 rfl rfl 0 (by decide) (hts _ qX0_record_Cond_fieldLink_RX0_11_NestedCodes_History_states_LNestedCodes_State_) (fun _ h9 => h9) rfl dX0_record_14 ?_
  refine lv_aload_n hx hb dX0_record_17 rfl (lv_at hl 0 rfl) ?_
  refine va_get (D := D) (ci := 0) (v := .int (nI 4)) (C := RX0) (T := TX0) (N := 2) hx hb hts qX0_record_inX0 hown hK hP 5 rfl rfl 1 (by decide) (hts _ qX0_record_Cond_fieldLink_RX0_18_NestedCodes_History_size_I_) (fun _ h9 => h9) rfl dX0_record_18 ?_
  refine za_q hx hb hK hP 6 (f := fun j => some (B (4 * j))) (v := B 16) rfl (by omega) (by decide) dX0_record_21 (rfl) ?_
  refine lv_aload_n hx hb dX0_record_22 rfl (lv_at hl 1 rfl) ?_
  refine zc_w (va_runVN (C := RX4) (As := [.ref (A 1)]) (rest := []) ⟨hx, hb, hml, hown, hts⟩ (c_X4_copyFrom l D Y (fun j => B (16 + j)) (fun j => A (1 + j)) (h 4 0) (h 4 1) (h 4 2) (h 4 8) (zg (h 4)) (fun j => h 4 (9 + j)) (zL (h 4 7)) σ  ) ⟨(va_cnB 1 hts gX0_record_X4_copyFrom_n25 rfl rfl rfl (kM_X0_25 hN) (hts _ qX0_record_Cond_initialized_RX4) (by decide +kernel) (by rw [hR]; exact ⟨Nat.le_of_ble_eq_true rfl, Nat.le_of_ble_eq_true rfl⟩)), (hts _ qX0_record_Cond_instanceMethod_yX4_copyFrom), (hts _ qX0_record_Cond_selects_RX4_yX4_copyFrom_yX4_copyFrom)⟩ ⟨zBw_blind, va_recv hK hP (ci := 4) (q0 := 34) rfl rfl, (zp_w (wc := SX Y (fun j => B (16 + j)) (fun j => A (1 + j)) (h 4 0) (h 4 1) (h 4 2) (h 4 8) (zg (h 4)) (fun j => h 4 (9 + j)) (zL (h 4 7)) σ) (hP.sub (ws' := SX Y (fun j => B (16 + j)) (fun j => A (1 + j)) (h 4 0) (h 4 1) (h 4 2) (h 4 8) (zg (h 4)) (fun j => h 4 (9 + j)) (zL (h 4 7)) σ) [34, 35, 36, 37, 1, 2, 3, 4] rfl) (hD.sub (ws' := SX Y (fun j => B (16 + j)) (fun j => A (1 + j)) (h 4 0) (h 4 1) (h 4 2) (h 4 8) (zg (h 4)) (fun j => h 4 (9 + j)) (zL (h 4 7)) σ) [34, 35, 36, 37, 1, 2, 3, 4] (by decide) rfl) hK hN)⟩ rfl rfl hl.1 rfl (lv_room (Nat.le_of_ble_eq_true rfl)) dX0_record_23 ⟨Nat.zero_le _, Nat.zero_le _⟩).run hS (zA_of (hD.sub (ws' := SX Y (fun j => B (16 + j)) (fun j => A (1 + j)) (h 4 0) (h 4 1) (h 4 2) (h 4 8) (zg (h 4)) (fun j => h 4 (9 + j)) (zL (h 4 7)) σ) [34, 35, 36, 37, 1, 2, 3, 4] (by decide) rfl)) (fun H1 locs hP1 hz hk hS => ?_)
  have hP := z_put (wc := SX Y (fun j => B (16 + j)) (fun j => A (1 + j)) (h 4 0) (h 4 1) (h 4 2) (h 4 8) (zg (h 4)) (fun j => h 4 (9 + j)) (zL (h 4 7)) σ) (w1 := SX Y (fun j => B (16 + j)) (fun j => A (1 + j)) (σ 0) (σ 1) (σ 2) (σ 8) (zg σ) (fun j => σ (9 + j)) (zL (σ 7)) σ) hP hD [34, 35, 36, 37, 1, 2, 3, 4] rfl hk hP1 rfl
  clear hP1 hk
  generalize H1 = H at hP hS hz ⊢
  have hP : va_P D vwCl (CX Y A B σ 4 (va_up h 4 σ) wd dd r0 r1 r2 r3 r4 rl rp rb wt wn) H := hP
  have hD : va_D FA (CX Y A B σ 4 (va_up h 4 σ) wd dd r0 r1 r2 r3 r4 rl rp rb wt wn) := CX_dd hD
  refine lv_aload_n hx hb dX0_record_26 rfl (lv_at hl 0 rfl) ?_
  refine lv_dup hx hb dX0_record_27 rfl ?_
  refine va_get (D := D) (ci := 0) (v := .int (nI 4)) (C := RX0) (T := TX0) (N := 2) hx hb hts qX0_record_inX0 hown hK hP 5 rfl rfl 1 (by decide) (hts _ qX0_record_Cond_fieldLink_RX0_18_NestedCodes_History_size_I_) (fun _ h9 => h9) rfl dX0_record_28 ?_
  refine lv_iconst (v := (nI 1)) hx hb dX0_record_31 (by decide) ?_
  refine zv_iadd hx hb (v := (nI 5)) dX0_record_32 (by decide) ?_
  refine va_put (D := D) (ci := 0) (v := .int (nI 5)) (ty := .int) (C := RX0) (T := TX0) (N := 2) hx hb hts qX0_record_inX0 tyX0 tyX0_ok nmX0 hown hK hP hD hS 5 rfl rfl 1 (by decide) (hts _ qX0_record_Cond_fieldLink_RX0_18_NestedCodes_History_size_I_) (fun _ h9 => h9) rfl (by decide +kernel) rfl rfl (Nat.le_of_ble_eq_true rfl) dX0_record_33 (fun H locs hP hD9 hS => ?_)
  rw [CX_f_hn] at hP
  have hP : va_P D vwCl (CX Y A B σ 5 (va_up h 4 σ) wd dd r0 r1 r2 r3 r4 rl rp rb wt wn) H := hP
  have hD : va_D FA (CX Y A B σ 5 (va_up h 4 σ) wd dd r0 r1 r2 r3 r4 rl rp rb wt wn) := CX_dd hD
  clear hD9
  exact zw_v hx hb hr hlk hQ hS dX0_record_36 (hP)
set_option maxHeartbeats 4000000 in
set_option maxRecDepth 100000 in
theorem c_X0_record_5 (l : Launch) (D : va_G) (Y : Nat → ClassId) (A : Nat → Nat) (B : Nat → Nat) (σ : Nat → Nat) (h : Nat → Nat → Nat) (wd : Nat → Nat) (dd : Nat) (r0 : Nat → Nat) (r1 : Nat → Nat) (r2 : Nat → Nat) (r3 : Nat → Nat) (r4 : Nat → Nat) (rl : Nat) (rp : Nat) (rb : Nat) (wt : Nat → Nat) (wn : Nat)    : Met l yX0_record wsX0_record ({ frames := 1, cells := 0, slots := 0, locals := 22 } : Room) (va_Pc [.ref (A 5), .ref (A 1)] (zBw D Y (CX Y A B σ 5 h wd dd r0 r1 r2 r3 r4 rl rp rb wt wn))) (zW none D (CX Y A B σ 6 (va_up h 5 σ) wd dd r0 r1 r2 r3 r4 rl rp rb wt wn) (zA (CX Y A B σ 5 h wd dd r0 r1 r2 r3 r4 rl rp rb wt wn))) 0 0 (zA (CX Y A B σ 5 h wd dd r0 r1 r2 r3 r4 rl rp rb wt wn)) := by
  refine zw_of (cc := cX0_record) (maxL := 2) (ret := none) (by decide) rfl (Nat.le_of_ble_eq_true rfl) ?_
  intro p e s m below meth c R args Q FA hR hx hb hml hr hlk hown hts hK hN hQ hP hD hS ls hl
  have hown : s.vm.findClass RX0 = some m.cls := hown
  have hl : lv_has ls 2 [(0, .ref (A 5)), (1, .ref (A 1))] := hl
  have hS := hS
  suffices hgo : ∀ (H : Heap) (locs : List Loc), va_P D vwCl (CX Y A B σ 5 h wd dd r0 r1 r2 r3 r4 rl rp rb wt wn) H → va_S FA s.heap H locs → W p l e R s m args below meth c H locs 0 0 Q (F0 m 0 ls []) from hgo _ _ hP hS
  clear hP hS
  intro H locs hP hS
  refine lv_aload_n hx hb dX0_record_0 rfl (lv_at hl 0 rfl) ?_
  refine va_get (D := D) (ci := 0) (v := .int (nI 5)) (C := RX0) (T := TX0) (N := 2) hx hb hts qX0_record_inX0 hown hK hP 5 rfl rfl 1 (by decide) (hts _ qX0_record_Cond_fieldLink_RX0_18_NestedCodes_History_size_I_) (fun _ h9 => h9) rfl dX0_record_1 ?_
  refine lv_bipush (v := (nI 6)) hx hb dX0_record_4 (by decide) ?_
  refine zn_icmp_lt (tgt := 13) hx hb dX0_record_6 (by decide) (by decide) (by decide) (fun _ => ?_) (fun h => absurd h (by decide))
  refine lv_aload_n hx hb dX0_record_13 rfl (lv_at hl 0 rfl) ?_
  refine va_get (D := D) (ci := 0) (v := .ref (A 6)) (C := RX0) (T := TX0) (N := 2) hx hb hts qX0_record_inX0 hown hK hP 5 rfl rfl 0 (by decide) (hts _ qX0_record_Cond_fieldLink_RX0_11_NestedCodes_History_states_LNestedCodes_State_) (fun _ h9 => h9) rfl dX0_record_14 ?_
  refine lv_aload_n hx hb dX0_record_17 rfl (lv_at hl 0 rfl) ?_
  refine va_get (D := D) (ci := 0) (v := .int (nI 5)) (C := RX0) (T := TX0) (N := 2) hx hb hts qX0_record_inX0 hown hK hP 5 rfl rfl 1 (by decide) (hts _ qX0_record_Cond_fieldLink_RX0_18_NestedCodes_History_size_I_) (fun _ h9 => h9) rfl dX0_record_18 ?_
  refine za_q hx hb hK hP 6 (f := fun j => some (B (4 * j))) (v := B 20) rfl (by omega) (by decide) dX0_record_21 (rfl) ?_
  refine lv_aload_n hx hb dX0_record_22 rfl (lv_at hl 1 rfl) ?_
  refine zc_w (va_runVN (C := RX4) (As := [.ref (A 1)]) (rest := []) ⟨hx, hb, hml, hown, hts⟩ (c_X4_copyFrom l D Y (fun j => B (20 + j)) (fun j => A (1 + j)) (h 5 0) (h 5 1) (h 5 2) (h 5 8) (zg (h 5)) (fun j => h 5 (9 + j)) (zL (h 5 7)) σ  ) ⟨(va_cnB 1 hts gX0_record_X4_copyFrom_n25 rfl rfl rfl (kM_X0_25 hN) (hts _ qX0_record_Cond_initialized_RX4) (by decide +kernel) (by rw [hR]; exact ⟨Nat.le_of_ble_eq_true rfl, Nat.le_of_ble_eq_true rfl⟩)), (hts _ qX0_record_Cond_instanceMethod_yX4_copyFrom), (hts _ qX0_record_Cond_selects_RX4_yX4_copyFrom_yX4_copyFrom)⟩ ⟨zBw_blind, va_recv hK hP (ci := 4) (q0 := 38) rfl rfl, (zp_w (wc := SX Y (fun j => B (20 + j)) (fun j => A (1 + j)) (h 5 0) (h 5 1) (h 5 2) (h 5 8) (zg (h 5)) (fun j => h 5 (9 + j)) (zL (h 5 7)) σ) (hP.sub (ws' := SX Y (fun j => B (20 + j)) (fun j => A (1 + j)) (h 5 0) (h 5 1) (h 5 2) (h 5 8) (zg (h 5)) (fun j => h 5 (9 + j)) (zL (h 5 7)) σ) [38, 39, 40, 41, 1, 2, 3, 4] rfl) (hD.sub (ws' := SX Y (fun j => B (20 + j)) (fun j => A (1 + j)) (h 5 0) (h 5 1) (h 5 2) (h 5 8) (zg (h 5)) (fun j => h 5 (9 + j)) (zL (h 5 7)) σ) [38, 39, 40, 41, 1, 2, 3, 4] (by decide) rfl) hK hN)⟩ rfl rfl hl.1 rfl (lv_room (Nat.le_of_ble_eq_true rfl)) dX0_record_23 ⟨Nat.zero_le _, Nat.zero_le _⟩).run hS (zA_of (hD.sub (ws' := SX Y (fun j => B (20 + j)) (fun j => A (1 + j)) (h 5 0) (h 5 1) (h 5 2) (h 5 8) (zg (h 5)) (fun j => h 5 (9 + j)) (zL (h 5 7)) σ) [38, 39, 40, 41, 1, 2, 3, 4] (by decide) rfl)) (fun H1 locs hP1 hz hk hS => ?_)
  have hP := z_put (wc := SX Y (fun j => B (20 + j)) (fun j => A (1 + j)) (h 5 0) (h 5 1) (h 5 2) (h 5 8) (zg (h 5)) (fun j => h 5 (9 + j)) (zL (h 5 7)) σ) (w1 := SX Y (fun j => B (20 + j)) (fun j => A (1 + j)) (σ 0) (σ 1) (σ 2) (σ 8) (zg σ) (fun j => σ (9 + j)) (zL (σ 7)) σ) hP hD [38, 39, 40, 41, 1, 2, 3, 4] rfl hk hP1 rfl
  clear hP1 hk
  generalize H1 = H at hP hS hz ⊢
  have hP : va_P D vwCl (CX Y A B σ 5 (va_up h 5 σ) wd dd r0 r1 r2 r3 r4 rl rp rb wt wn) H := hP
  have hD : va_D FA (CX Y A B σ 5 (va_up h 5 σ) wd dd r0 r1 r2 r3 r4 rl rp rb wt wn) := CX_dd hD
  refine lv_aload_n hx hb dX0_record_26 rfl (lv_at hl 0 rfl) ?_
  refine lv_dup hx hb dX0_record_27 rfl ?_
  refine va_get (D := D) (ci := 0) (v := .int (nI 5)) (C := RX0) (T := TX0) (N := 2) hx hb hts qX0_record_inX0 hown hK hP 5 rfl rfl 1 (by decide) (hts _ qX0_record_Cond_fieldLink_RX0_18_NestedCodes_History_size_I_) (fun _ h9 => h9) rfl dX0_record_28 ?_
  refine lv_iconst (v := (nI 1)) hx hb dX0_record_31 (by decide) ?_
  refine zv_iadd hx hb (v := (nI 6)) dX0_record_32 (by decide) ?_
  refine va_put (D := D) (ci := 0) (v := .int (nI 6)) (ty := .int) (C := RX0) (T := TX0) (N := 2) hx hb hts qX0_record_inX0 tyX0 tyX0_ok nmX0 hown hK hP hD hS 5 rfl rfl 1 (by decide) (hts _ qX0_record_Cond_fieldLink_RX0_18_NestedCodes_History_size_I_) (fun _ h9 => h9) rfl (by decide +kernel) rfl rfl (Nat.le_of_ble_eq_true rfl) dX0_record_33 (fun H locs hP hD9 hS => ?_)
  rw [CX_f_hn] at hP
  have hP : va_P D vwCl (CX Y A B σ 6 (va_up h 5 σ) wd dd r0 r1 r2 r3 r4 rl rp rb wt wn) H := hP
  have hD : va_D FA (CX Y A B σ 6 (va_up h 5 σ) wd dd r0 r1 r2 r3 r4 rl rp rb wt wn) := CX_dd hD
  clear hD9
  exact zw_v hx hb hr hlk hQ hS dX0_record_36 (hP)
set_option maxHeartbeats 4000000 in
set_option maxRecDepth 100000 in
theorem c_X0_record_6 (l : Launch) (D : va_G) (Y : Nat → ClassId) (A : Nat → Nat) (B : Nat → Nat) (σ : Nat → Nat) (h : Nat → Nat → Nat) (wd : Nat → Nat) (dd : Nat) (r0 : Nat → Nat) (r1 : Nat → Nat) (r2 : Nat → Nat) (r3 : Nat → Nat) (r4 : Nat → Nat) (rl : Nat) (rp : Nat) (rb : Nat) (wt : Nat → Nat) (wn : Nat)    : Met l yX0_record wsX0_record ({ frames := 1, cells := 0, slots := 0, locals := 22 } : Room) (va_Pc [.ref (A 5), .ref (A 1)] (zBw D Y (CX Y A B σ 6 h wd dd r0 r1 r2 r3 r4 rl rp rb wt wn))) (zW none D (CX Y A (rotB B) σ 6 (va_up (rotH h) 5 σ) wd dd r0 r1 r2 r3 r4 rl rp rb wt wn) (zA (CX Y A B σ 6 h wd dd r0 r1 r2 r3 r4 rl rp rb wt wn))) 0 0 (zA (CX Y A B σ 6 h wd dd r0 r1 r2 r3 r4 rl rp rb wt wn)) := by
  refine zw_of (cc := cX0_record) (maxL := 2) (ret := none) (by decide) rfl (Nat.le_of_ble_eq_true rfl) ?_
  intro p e s m below meth c R args Q FA hR hx hb hml hr hlk hown hts hK hN hQ hP hD hS ls hl
  have hown : s.vm.findClass RX0 = some m.cls := hown
  have hl : lv_has ls 2 [(0, .ref (A 5)), (1, .ref (A 1))] := hl
  have hS := hS
  suffices hgo : ∀ (H : Heap) (locs : List Loc), va_P D vwCl (CX Y A B σ 6 h wd dd r0 r1 r2 r3 r4 rl rp rb wt wn) H → va_S FA s.heap H locs → W p l e R s m args below meth c H locs 0 0 Q (F0 m 0 ls []) from hgo _ _ hP hS
  clear hP hS
  intro H locs hP hS
  refine lv_aload_n hx hb dX0_record_0 rfl (lv_at hl 0 rfl) ?_
  refine va_get (D := D) (ci := 0) (v := .int (nI 6)) (C := RX0) (T := TX0) (N := 2) hx hb hts qX0_record_inX0 hown hK hP 5 rfl rfl 1 (by decide) (hts _ qX0_record_Cond_fieldLink_RX0_18_NestedCodes_History_size_I_) (fun _ h9 => h9) rfl dX0_record_1 ?_
  refine lv_bipush (v := (nI 6)) hx hb dX0_record_4 (by decide) ?_
  refine zn_icmp_lt (tgt := 13) hx hb dX0_record_6 (by decide) (by decide) (by decide) (fun h => absurd h (by decide)) (fun _ => ?_)
  refine lv_aload_n hx hb dX0_record_9 rfl (lv_at hl 0 rfl) ?_
  refine zc_w (va_runV (As := []) (rest := []) ⟨hx, hb, hml, hown, hts⟩ (c_X0_dropOldest l D Y (A 5) (A 6) B 6 h  ) (cwV 0 hts gX0_record_X0_dropOldest rfl rfl rfl (by decide +kernel) (by rw [hR]; exact ⟨Nat.le_of_ble_eq_true rfl, Nat.le_of_ble_eq_true rfl⟩)) ⟨zBw_blind, va_recv hK hP (ci := 0) (q0 := 5) rfl rfl, (zp_w (wc := HX Y (A 5) (A 6) B (fun j => some (B (4 * j))) 6 h) (hP.sub (ws' := HX Y (A 5) (A 6) B (fun j => some (B (4 * j))) 6 h) [5, 6, 18, 22, 26, 30, 34, 38] rfl) (hD.sub (ws' := HX Y (A 5) (A 6) B (fun j => some (B (4 * j))) 6 h) [5, 6, 18, 22, 26, 30, 34, 38] (by decide) rfl) hK hN)⟩ rfl rfl hl.1 rfl (lv_room (Nat.le_of_ble_eq_true rfl)) dX0_record_10 ⟨Nat.zero_le _, Nat.zero_le _⟩).run hS (zA_of (hD.sub (ws' := HX Y (A 5) (A 6) B (fun j => some (B (4 * j))) 6 h) [5, 6, 18, 22, 26, 30, 34, 38] (by decide) rfl)) (fun H1 locs hP1 hz hk hS => ?_)
  have hP := z_put (wc := HX Y (A 5) (A 6) B (fun j => some (B (4 * j))) 6 h) (w1 := HX Y (A 5) (A 6) B (fun j => some (rotB B (4 * j))) 5 h) hP hD [5, 6, 18, 22, 26, 30, 34, 38] rfl hk hP1 rfl
  clear hP1 hk
  generalize H1 = H at hP hS hz ⊢
  have hP : va_P D vwCl (CX Y A (rotB B) σ 5 (rotH h) wd dd r0 r1 r2 r3 r4 rl rp rb wt wn) H := hP.sub [0, 1, 2, 3, 4, 5, 6, 7, 8, 9, 10, 11, 12, 13, 14, 15, 16, 17, 22, 23, 24, 25, 26, 27, 28, 29, 30, 31, 32, 33, 34, 35, 36, 37, 38, 39, 40, 41, 18, 19, 20, 21] rfl
  have hD : va_D FA (CX Y A (rotB B) σ 5 (rotH h) wd dd r0 r1 r2 r3 r4 rl rp rb wt wn) := zD_perm hD [0, 1, 2, 3, 4, 5, 6, 7, 8, 9, 10, 11, 12, 13, 14, 15, 16, 17, 22, 23, 24, 25, 26, 27, 28, 29, 30, 31, 32, 33, 34, 35, 36, 37, 38, 39, 40, 41, 18, 19, 20, 21] (by decide) rfl
  refine lv_aload_n hx hb dX0_record_13 rfl (lv_at hl 0 rfl) ?_
  refine va_get (D := D) (ci := 0) (v := .ref (A 6)) (C := RX0) (T := TX0) (N := 2) hx hb hts qX0_record_inX0 hown hK hP 5 rfl rfl 0 (by decide) (hts _ qX0_record_Cond_fieldLink_RX0_11_NestedCodes_History_states_LNestedCodes_State_) (fun _ h9 => h9) rfl dX0_record_14 ?_
  refine lv_aload_n hx hb dX0_record_17 rfl (lv_at hl 0 rfl) ?_
  refine va_get (D := D) (ci := 0) (v := .int (nI 5)) (C := RX0) (T := TX0) (N := 2) hx hb hts qX0_record_inX0 hown hK hP 5 rfl rfl 1 (by decide) (hts _ qX0_record_Cond_fieldLink_RX0_18_NestedCodes_History_size_I_) (fun _ h9 => h9) rfl dX0_record_18 ?_
  refine za_q hx hb hK hP 6 (f := fun j => some ((rotB B) (4 * j))) (v := (rotB B) 20) rfl (by omega) (by decide) dX0_record_21 (rfl) ?_
  refine lv_aload_n hx hb dX0_record_22 rfl (lv_at hl 1 rfl) ?_
  refine zc_w (va_runVN (C := RX4) (As := [.ref (A 1)]) (rest := []) ⟨hx, hb, hml, hown, hts⟩ (c_X4_copyFrom l D Y (fun j => (rotB B) (20 + j)) (fun j => A (1 + j)) ((rotH h) 5 0) ((rotH h) 5 1) ((rotH h) 5 2) ((rotH h) 5 8) (zg ((rotH h) 5)) (fun j => (rotH h) 5 (9 + j)) (zL ((rotH h) 5 7)) σ  ) ⟨(va_cnB 1 hts gX0_record_X4_copyFrom_n25 rfl rfl rfl (kM_X0_25 hN) (hts _ qX0_record_Cond_initialized_RX4) (by decide +kernel) (by rw [hR]; exact ⟨Nat.le_of_ble_eq_true rfl, Nat.le_of_ble_eq_true rfl⟩)), (hts _ qX0_record_Cond_instanceMethod_yX4_copyFrom), (hts _ qX0_record_Cond_selects_RX4_yX4_copyFrom_yX4_copyFrom)⟩ ⟨zBw_blind, va_recv hK hP (ci := 4) (q0 := 38) rfl rfl, (zp_w (wc := SX Y (fun j => (rotB B) (20 + j)) (fun j => A (1 + j)) ((rotH h) 5 0) ((rotH h) 5 1) ((rotH h) 5 2) ((rotH h) 5 8) (zg ((rotH h) 5)) (fun j => (rotH h) 5 (9 + j)) (zL ((rotH h) 5 7)) σ) (hP.sub (ws' := SX Y (fun j => (rotB B) (20 + j)) (fun j => A (1 + j)) ((rotH h) 5 0) ((rotH h) 5 1) ((rotH h) 5 2) ((rotH h) 5 8) (zg ((rotH h) 5)) (fun j => (rotH h) 5 (9 + j)) (zL ((rotH h) 5 7)) σ) [38, 39, 40, 41, 1, 2, 3, 4] rfl) (hD.sub (ws' := SX Y (fun j => (rotB B) (20 + j)) (fun j => A (1 + j)) ((rotH h) 5 0) ((rotH h) 5 1) ((rotH h) 5 2) ((rotH h) 5 8) (zg ((rotH h) 5)) (fun j => (rotH h) 5 (9 + j)) (zL ((rotH h) 5 7)) σ) [38, 39, 40, 41, 1, 2, 3, 4] (by decide) rfl) hK hN)⟩ rfl rfl hl.1 rfl (lv_room (Nat.le_of_ble_eq_true rfl)) dX0_record_23 ⟨Nat.zero_le _, Nat.zero_le _⟩).run hS (zA_of (hD.sub (ws' := SX Y (fun j => (rotB B) (20 + j)) (fun j => A (1 + j)) ((rotH h) 5 0) ((rotH h) 5 1) ((rotH h) 5 2) ((rotH h) 5 8) (zg ((rotH h) 5)) (fun j => (rotH h) 5 (9 + j)) (zL ((rotH h) 5 7)) σ) [38, 39, 40, 41, 1, 2, 3, 4] (by decide) rfl)) (fun H1 locs hP1 hz hk hS => ?_)
  have hP := z_put (wc := SX Y (fun j => (rotB B) (20 + j)) (fun j => A (1 + j)) ((rotH h) 5 0) ((rotH h) 5 1) ((rotH h) 5 2) ((rotH h) 5 8) (zg ((rotH h) 5)) (fun j => (rotH h) 5 (9 + j)) (zL ((rotH h) 5 7)) σ) (w1 := SX Y (fun j => (rotB B) (20 + j)) (fun j => A (1 + j)) (σ 0) (σ 1) (σ 2) (σ 8) (zg σ) (fun j => σ (9 + j)) (zL (σ 7)) σ) hP hD [38, 39, 40, 41, 1, 2, 3, 4] rfl hk hP1 rfl
  clear hP1 hk
  generalize H1 = H at hP hS hz ⊢
  have hP : va_P D vwCl (CX Y A (rotB B) σ 5 (va_up (rotH h) 5 σ) wd dd r0 r1 r2 r3 r4 rl rp rb wt wn) H := hP
  have hD : va_D FA (CX Y A (rotB B) σ 5 (va_up (rotH h) 5 σ) wd dd r0 r1 r2 r3 r4 rl rp rb wt wn) := CX_dd hD
  refine lv_aload_n hx hb dX0_record_26 rfl (lv_at hl 0 rfl) ?_
  refine lv_dup hx hb dX0_record_27 rfl ?_
  refine va_get (D := D) (ci := 0) (v := .int (nI 5)) (C := RX0) (T := TX0) (N := 2) hx hb hts qX0_record_inX0 hown hK hP 5 rfl rfl 1 (by decide) (hts _ qX0_record_Cond_fieldLink_RX0_18_NestedCodes_History_size_I_) (fun _ h9 => h9) rfl dX0_record_28 ?_
  refine lv_iconst (v := (nI 1)) hx hb dX0_record_31 (by decide) ?_
  refine zv_iadd hx hb (v := (nI 6)) dX0_record_32 (by decide) ?_
  refine va_put (D := D) (ci := 0) (v := .int (nI 6)) (ty := .int) (C := RX0) (T := TX0) (N := 2) hx hb hts qX0_record_inX0 tyX0 tyX0_ok nmX0 hown hK hP hD hS 5 rfl rfl 1 (by decide) (hts _ qX0_record_Cond_fieldLink_RX0_18_NestedCodes_History_size_I_) (fun _ h9 => h9) rfl (by decide +kernel) rfl rfl (Nat.le_of_ble_eq_true rfl) dX0_record_33 (fun H locs hP hD9 hS => ?_)
  rw [CX_f_hn] at hP
  have hP : va_P D vwCl (CX Y A (rotB B) σ 6 (va_up (rotH h) 5 σ) wd dd r0 r1 r2 r3 r4 rl rp rb wt wn) H := hP
  have hD : va_D FA (CX Y A (rotB B) σ 6 (va_up (rotH h) 5 σ) wd dd r0 r1 r2 r3 r4 rl rp rb wt wn) := CX_dd hD
  clear hD9
  exact zw_v hx hb hr hlk hQ hS dX0_record_36 (hP)
theorem CX_recD {Y : Nat → ClassId} {A B σ : Nat → Nat} {hn : Nat} {h : Nat → Nat → Nat} {wd : Nat → Nat} {dd : Nat} {r0 r1 r2 r3 r4 : Nat → Nat} {rl rp rb : Nat} {wt : Nat → Nat} {wn : Nat} {F : Nat → Prop} (hD : va_D F (CX Y A B σ hn h wd dd r0 r1 r2 r3 r4 rl rp rb wt wn)) : va_D F (CX Y A (recB B hn) σ (recN hn) (recH h hn σ) wd dd r0 r1 r2 r3 r4 rl rp rb wt wn) := by
  unfold recB
  split
  · exact zD_perm hD [0, 1, 2, 3, 4, 5, 6, 7, 8, 9, 10, 11, 12, 13, 14, 15, 16, 17, 22, 23, 24, 25, 26, 27, 28, 29, 30, 31, 32, 33, 34, 35, 36, 37, 38, 39, 40, 41, 18, 19, 20, 21] (by decide) rfl
  · exact zD_same hD rfl
theorem c_X0_record (l : Launch) (D : va_G) (Y : Nat → ClassId) (A : Nat → Nat) (B : Nat → Nat) (σ : Nat → Nat) (hn : Nat) (h : Nat → Nat → Nat) (wd : Nat → Nat) (dd : Nat) (r0 : Nat → Nat) (r1 : Nat → Nat) (r2 : Nat → Nat) (r3 : Nat → Nat) (r4 : Nat → Nat) (rl : Nat) (rp : Nat) (rb : Nat) (wt : Nat → Nat) (wn : Nat) (khn : hn ≤ 6) : Met l yX0_record wsX0_record ({ frames := 1, cells := 0, slots := 0, locals := 22 } : Room) (va_Pc [.ref (A 5), .ref (A 1)] (zBw D Y (CX Y A B σ hn h wd dd r0 r1 r2 r3 r4 rl rp rb wt wn))) (zW none D (CX Y A (recB B hn) σ (recN hn) (recH h hn σ) wd dd r0 r1 r2 r3 r4 rl rp rb wt wn) (zA (CX Y A B σ hn h wd dd r0 r1 r2 r3 r4 rl rp rb wt wn))) 0 0 (zA (CX Y A B σ hn h wd dd r0 r1 r2 r3 r4 rl rp rb wt wn)) := by
  rcases (show hn = 0 ∨ hn = 1 ∨ hn = 2 ∨ hn = 3 ∨ hn = 4 ∨ hn = 5 ∨ hn = 6 by omega) with rfl | rfl | rfl | rfl | rfl | rfl | rfl
  · exact c_X0_record_0 l D Y A B σ h wd dd r0 r1 r2 r3 r4 rl rp rb wt wn
  · exact c_X0_record_1 l D Y A B σ h wd dd r0 r1 r2 r3 r4 rl rp rb wt wn
  · exact c_X0_record_2 l D Y A B σ h wd dd r0 r1 r2 r3 r4 rl rp rb wt wn
  · exact c_X0_record_3 l D Y A B σ h wd dd r0 r1 r2 r3 r4 rl rp rb wt wn
  · exact c_X0_record_4 l D Y A B σ h wd dd r0 r1 r2 r3 r4 rl rp rb wt wn
  · exact c_X0_record_5 l D Y A B σ h wd dd r0 r1 r2 r3 r4 rl rp rb wt wn
  · exact c_X0_record_6 l D Y A B σ h wd dd r0 r1 r2 r3 r4 rl rp rb wt wn
theorem qX0_restoreLatest_Cond_fieldLink_RX0_18_NestedCodes_History_size_I_ : Cond.fieldLink RX0 18 "NestedCodes$History" "size" "I" ∈ wsX0_restoreLatest := by decide +kernel
theorem qX0_restoreLatest_inX0 : ∀ w ∈ wsX00, w ∈ wsX0_restoreLatest := by decide +kernel
theorem qX0_restoreLatest_Cond_fieldLink_RX0_11_NestedCodes_History_states_LNestedCodes_State_ : Cond.fieldLink RX0 11 "NestedCodes$History" "states" "[LNestedCodes$State;" ∈ wsX0_restoreLatest := by decide +kernel
theorem qX0_restoreLatest_Cond_initialized_RX4 : Cond.initialized RX4 ∈ wsX0_restoreLatest := by decide +kernel
theorem qX0_restoreLatest_Cond_instanceMethod_yX4_copyFrom : Cond.instanceMethod yX4_copyFrom ∈ wsX0_restoreLatest := by decide +kernel
theorem qX0_restoreLatest_Cond_selects_RX4_yX4_copyFrom_yX4_copyFrom : Cond.selects RX4 yX4_copyFrom yX4_copyFrom ∈ wsX0_restoreLatest := by decide +kernel
set_option maxHeartbeats 4000000 in
set_option maxRecDepth 100000 in
theorem c_X0_restoreLatest_0 (l : Launch) (D : va_G) (Y : Nat → ClassId) (A : Nat → Nat) (B : Nat → Nat) (σ : Nat → Nat) (h : Nat → Nat → Nat) (wd : Nat → Nat) (dd : Nat) (r0 : Nat → Nat) (r1 : Nat → Nat) (r2 : Nat → Nat) (r3 : Nat → Nat) (r4 : Nat → Nat) (rl : Nat) (rp : Nat) (rb : Nat) (wt : Nat → Nat) (wn : Nat)    : Met l yX0_restoreLatest wsX0_restoreLatest ({ frames := 1, cells := 0, slots := 0, locals := 22 } : Room) (va_Pc [.ref (A 5), .ref (A 1)] (zBw D Y (CX Y A B σ 1 h wd dd r0 r1 r2 r3 r4 rl rp rb wt wn))) (zW none D (CX Y A B (h 0) 0 h wd dd r0 r1 r2 r3 r4 rl rp rb wt wn) (zA (CX Y A B σ 1 h wd dd r0 r1 r2 r3 r4 rl rp rb wt wn))) 0 0 (zA (CX Y A B σ 1 h wd dd r0 r1 r2 r3 r4 rl rp rb wt wn)) := by
  refine zw_of (cc := cX0_restoreLatest) (maxL := 2) (ret := none) (by decide) rfl (Nat.le_of_ble_eq_true rfl) ?_
  intro p e s m below meth c R args Q FA hR hx hb hml hr hlk hown hts hK hN hQ hP hD hS ls hl
  have hown : s.vm.findClass RX0 = some m.cls := hown
  have hl : lv_has ls 2 [(0, .ref (A 5)), (1, .ref (A 1))] := hl
  have hS := hS
  suffices hgo : ∀ (H : Heap) (locs : List Loc), va_P D vwCl (CX Y A B σ 1 h wd dd r0 r1 r2 r3 r4 rl rp rb wt wn) H → va_S FA s.heap H locs → W p l e R s m args below meth c H locs 0 0 Q (F0 m 0 ls []) from hgo _ _ hP hS
  clear hP hS
  intro H locs hP hS
  refine lv_aload_n hx hb dX0_restoreLatest_0 rfl (lv_at hl 0 rfl) ?_
  refine va_get (D := D) (ci := 0) (v := .int (nI 1)) (C := RX0) (T := TX0) (N := 2) hx hb hts qX0_restoreLatest_inX0 hown hK hP 5 rfl rfl 1 (by decide) (hts _ qX0_restoreLatest_Cond_fieldLink_RX0_18_NestedCodes_History_size_I_) (fun _ h9 => h9) rfl dX0_restoreLatest_1 ?_
  refine zn_if_le (tgt := 30)  hx hb dX0_restoreLatest_4 (by decide) (by omega) (fun c4 => ?_) (fun c4 => ?_)
  · exact absurd c4 (by omega)
  · refine lv_aload_n hx hb dX0_restoreLatest_7 rfl (lv_at hl 0 rfl) ?_
    refine lv_dup hx hb dX0_restoreLatest_8 rfl ?_
    refine va_get (D := D) (ci := 0) (v := .int (nI 1)) (C := RX0) (T := TX0) (N := 2) hx hb hts qX0_restoreLatest_inX0 hown hK hP 5 rfl rfl 1 (by decide) (hts _ qX0_restoreLatest_Cond_fieldLink_RX0_18_NestedCodes_History_size_I_) (fun _ h9 => h9) rfl dX0_restoreLatest_9 ?_
    refine lv_iconst (v := (nI 1)) hx hb dX0_restoreLatest_12 (by decide) ?_
    refine zv_isub hx hb (v := (nI 0)) dX0_restoreLatest_13 (by decide) ?_
    refine va_put (D := D) (ci := 0) (v := .int (nI 0)) (ty := .int) (C := RX0) (T := TX0) (N := 2) hx hb hts qX0_restoreLatest_inX0 tyX0 tyX0_ok nmX0 hown hK hP hD hS 5 rfl rfl 1 (by decide) (hts _ qX0_restoreLatest_Cond_fieldLink_RX0_18_NestedCodes_History_size_I_) (fun _ h9 => h9) rfl (by decide +kernel) rfl rfl (Nat.le_of_ble_eq_true rfl) dX0_restoreLatest_14 (fun H locs hP hD9 hS => ?_)
    rw [CX_f_hn] at hP
    have hP : va_P D vwCl (CX Y A B σ 0 h wd dd r0 r1 r2 r3 r4 rl rp rb wt wn) H := hP
    have hD : va_D FA (CX Y A B σ 0 h wd dd r0 r1 r2 r3 r4 rl rp rb wt wn) := CX_dd hD
    clear hD9
    refine lv_aload_n hx hb dX0_restoreLatest_17 rfl (lv_at hl 1 rfl) ?_
    refine lv_aload_n hx hb dX0_restoreLatest_18 rfl (lv_at hl 0 rfl) ?_
    refine va_get (D := D) (ci := 0) (v := .ref (A 6)) (C := RX0) (T := TX0) (N := 2) hx hb hts qX0_restoreLatest_inX0 hown hK hP 5 rfl rfl 0 (by decide) (hts _ qX0_restoreLatest_Cond_fieldLink_RX0_11_NestedCodes_History_states_LNestedCodes_State_) (fun _ h9 => h9) rfl dX0_restoreLatest_19 ?_
    refine lv_aload_n hx hb dX0_restoreLatest_22 rfl (lv_at hl 0 rfl) ?_
    refine va_get (D := D) (ci := 0) (v := .int (nI 0)) (C := RX0) (T := TX0) (N := 2) hx hb hts qX0_restoreLatest_inX0 hown hK hP 5 rfl rfl 1 (by decide) (hts _ qX0_restoreLatest_Cond_fieldLink_RX0_18_NestedCodes_History_size_I_) (fun _ h9 => h9) rfl dX0_restoreLatest_23 ?_
    refine za_q hx hb hK hP 6 (f := fun j => some (B (4 * j))) (v := B 0) rfl (by omega) (by decide) dX0_restoreLatest_26 (rfl) ?_
    refine zc_w (va_runVN (C := RX4) (As := [.ref (B 0)]) (rest := []) ⟨hx, hb, hml, hown, hts⟩ (c_X4_copyFrom l D Y (fun j => A (1 + j)) (fun j => B (0 + j)) (σ 0) (σ 1) (σ 2) (σ 8) (zg σ) (fun j => σ (9 + j)) (zL (σ 7)) (h 0)  ) ⟨(va_cnB 1 hts gX0_restoreLatest_X4_copyFrom_n25 rfl rfl rfl (kM_X0_25 hN) (hts _ qX0_restoreLatest_Cond_initialized_RX4) (by decide +kernel) (by rw [hR]; exact ⟨Nat.le_of_ble_eq_true rfl, Nat.le_of_ble_eq_true rfl⟩)), (hts _ qX0_restoreLatest_Cond_instanceMethod_yX4_copyFrom), (hts _ qX0_restoreLatest_Cond_selects_RX4_yX4_copyFrom_yX4_copyFrom)⟩ ⟨zBw_blind, va_recv hK hP (ci := 4) (q0 := 1) rfl rfl, (zp_w (wc := SX Y (fun j => A (1 + j)) (fun j => B (0 + j)) (σ 0) (σ 1) (σ 2) (σ 8) (zg σ) (fun j => σ (9 + j)) (zL (σ 7)) (h 0)) (hP.sub (ws' := SX Y (fun j => A (1 + j)) (fun j => B (0 + j)) (σ 0) (σ 1) (σ 2) (σ 8) (zg σ) (fun j => σ (9 + j)) (zL (σ 7)) (h 0)) [1, 2, 3, 4, 18, 19, 20, 21] rfl) (hD.sub (ws' := SX Y (fun j => A (1 + j)) (fun j => B (0 + j)) (σ 0) (σ 1) (σ 2) (σ 8) (zg σ) (fun j => σ (9 + j)) (zL (σ 7)) (h 0)) [1, 2, 3, 4, 18, 19, 20, 21] (by decide) rfl) hK hN)⟩ rfl rfl hl.1 rfl (lv_room (Nat.le_of_ble_eq_true rfl)) dX0_restoreLatest_27 ⟨Nat.zero_le _, Nat.zero_le _⟩).run hS (zA_of (hD.sub (ws' := SX Y (fun j => A (1 + j)) (fun j => B (0 + j)) (σ 0) (σ 1) (σ 2) (σ 8) (zg σ) (fun j => σ (9 + j)) (zL (σ 7)) (h 0)) [1, 2, 3, 4, 18, 19, 20, 21] (by decide) rfl)) (fun H1 locs hP1 hz hk hS => ?_)
    have hP := z_put (wc := SX Y (fun j => A (1 + j)) (fun j => B (0 + j)) (σ 0) (σ 1) (σ 2) (σ 8) (zg σ) (fun j => σ (9 + j)) (zL (σ 7)) (h 0)) (w1 := SX Y (fun j => A (1 + j)) (fun j => B (0 + j)) ((h 0) 0) ((h 0) 1) ((h 0) 2) ((h 0) 8) (zg (h 0)) (fun j => (h 0) (9 + j)) (zL ((h 0) 7)) (h 0)) hP hD [1, 2, 3, 4, 18, 19, 20, 21] rfl hk hP1 rfl
    clear hP1 hk
    generalize H1 = H at hP hS hz ⊢
    have hP : va_P D vwCl (CX Y A B (h 0) 0 h wd dd r0 r1 r2 r3 r4 rl rp rb wt wn) H := hP
    have hD : va_D FA (CX Y A B (h 0) 0 h wd dd r0 r1 r2 r3 r4 rl rp rb wt wn) := CX_dd hD
    exact zw_v hx hb hr hlk hQ hS dX0_restoreLatest_30 (hP)
set_option maxHeartbeats 4000000 in
set_option maxRecDepth 100000 in
theorem c_X0_restoreLatest_1 (l : Launch) (D : va_G) (Y : Nat → ClassId) (A : Nat → Nat) (B : Nat → Nat) (σ : Nat → Nat) (h : Nat → Nat → Nat) (wd : Nat → Nat) (dd : Nat) (r0 : Nat → Nat) (r1 : Nat → Nat) (r2 : Nat → Nat) (r3 : Nat → Nat) (r4 : Nat → Nat) (rl : Nat) (rp : Nat) (rb : Nat) (wt : Nat → Nat) (wn : Nat)    : Met l yX0_restoreLatest wsX0_restoreLatest ({ frames := 1, cells := 0, slots := 0, locals := 22 } : Room) (va_Pc [.ref (A 5), .ref (A 1)] (zBw D Y (CX Y A B σ 2 h wd dd r0 r1 r2 r3 r4 rl rp rb wt wn))) (zW none D (CX Y A B (h 1) 1 h wd dd r0 r1 r2 r3 r4 rl rp rb wt wn) (zA (CX Y A B σ 2 h wd dd r0 r1 r2 r3 r4 rl rp rb wt wn))) 0 0 (zA (CX Y A B σ 2 h wd dd r0 r1 r2 r3 r4 rl rp rb wt wn)) := by
  refine zw_of (cc := cX0_restoreLatest) (maxL := 2) (ret := none) (by decide) rfl (Nat.le_of_ble_eq_true rfl) ?_
  intro p e s m below meth c R args Q FA hR hx hb hml hr hlk hown hts hK hN hQ hP hD hS ls hl
  have hown : s.vm.findClass RX0 = some m.cls := hown
  have hl : lv_has ls 2 [(0, .ref (A 5)), (1, .ref (A 1))] := hl
  have hS := hS
  suffices hgo : ∀ (H : Heap) (locs : List Loc), va_P D vwCl (CX Y A B σ 2 h wd dd r0 r1 r2 r3 r4 rl rp rb wt wn) H → va_S FA s.heap H locs → W p l e R s m args below meth c H locs 0 0 Q (F0 m 0 ls []) from hgo _ _ hP hS
  clear hP hS
  intro H locs hP hS
  refine lv_aload_n hx hb dX0_restoreLatest_0 rfl (lv_at hl 0 rfl) ?_
  refine va_get (D := D) (ci := 0) (v := .int (nI 2)) (C := RX0) (T := TX0) (N := 2) hx hb hts qX0_restoreLatest_inX0 hown hK hP 5 rfl rfl 1 (by decide) (hts _ qX0_restoreLatest_Cond_fieldLink_RX0_18_NestedCodes_History_size_I_) (fun _ h9 => h9) rfl dX0_restoreLatest_1 ?_
  refine zn_if_le (tgt := 30)  hx hb dX0_restoreLatest_4 (by decide) (by omega) (fun c4 => ?_) (fun c4 => ?_)
  · exact absurd c4 (by omega)
  · refine lv_aload_n hx hb dX0_restoreLatest_7 rfl (lv_at hl 0 rfl) ?_
    refine lv_dup hx hb dX0_restoreLatest_8 rfl ?_
    refine va_get (D := D) (ci := 0) (v := .int (nI 2)) (C := RX0) (T := TX0) (N := 2) hx hb hts qX0_restoreLatest_inX0 hown hK hP 5 rfl rfl 1 (by decide) (hts _ qX0_restoreLatest_Cond_fieldLink_RX0_18_NestedCodes_History_size_I_) (fun _ h9 => h9) rfl dX0_restoreLatest_9 ?_
    refine lv_iconst (v := (nI 1)) hx hb dX0_restoreLatest_12 (by decide) ?_
    refine zv_isub hx hb (v := (nI 1)) dX0_restoreLatest_13 (by decide) ?_
    refine va_put (D := D) (ci := 0) (v := .int (nI 1)) (ty := .int) (C := RX0) (T := TX0) (N := 2) hx hb hts qX0_restoreLatest_inX0 tyX0 tyX0_ok nmX0 hown hK hP hD hS 5 rfl rfl 1 (by decide) (hts _ qX0_restoreLatest_Cond_fieldLink_RX0_18_NestedCodes_History_size_I_) (fun _ h9 => h9) rfl (by decide +kernel) rfl rfl (Nat.le_of_ble_eq_true rfl) dX0_restoreLatest_14 (fun H locs hP hD9 hS => ?_)
    rw [CX_f_hn] at hP
    have hP : va_P D vwCl (CX Y A B σ 1 h wd dd r0 r1 r2 r3 r4 rl rp rb wt wn) H := hP
    have hD : va_D FA (CX Y A B σ 1 h wd dd r0 r1 r2 r3 r4 rl rp rb wt wn) := CX_dd hD
    clear hD9
    refine lv_aload_n hx hb dX0_restoreLatest_17 rfl (lv_at hl 1 rfl) ?_
    refine lv_aload_n hx hb dX0_restoreLatest_18 rfl (lv_at hl 0 rfl) ?_
    refine va_get (D := D) (ci := 0) (v := .ref (A 6)) (C := RX0) (T := TX0) (N := 2) hx hb hts qX0_restoreLatest_inX0 hown hK hP 5 rfl rfl 0 (by decide) (hts _ qX0_restoreLatest_Cond_fieldLink_RX0_11_NestedCodes_History_states_LNestedCodes_State_) (fun _ h9 => h9) rfl dX0_restoreLatest_19 ?_
    refine lv_aload_n hx hb dX0_restoreLatest_22 rfl (lv_at hl 0 rfl) ?_
    refine va_get (D := D) (ci := 0) (v := .int (nI 1)) (C := RX0) (T := TX0) (N := 2) hx hb hts qX0_restoreLatest_inX0 hown hK hP 5 rfl rfl 1 (by decide) (hts _ qX0_restoreLatest_Cond_fieldLink_RX0_18_NestedCodes_History_size_I_) (fun _ h9 => h9) rfl dX0_restoreLatest_23 ?_
    refine za_q hx hb hK hP 6 (f := fun j => some (B (4 * j))) (v := B 4) rfl (by omega) (by decide) dX0_restoreLatest_26 (rfl) ?_
    refine zc_w (va_runVN (C := RX4) (As := [.ref (B 4)]) (rest := []) ⟨hx, hb, hml, hown, hts⟩ (c_X4_copyFrom l D Y (fun j => A (1 + j)) (fun j => B (4 + j)) (σ 0) (σ 1) (σ 2) (σ 8) (zg σ) (fun j => σ (9 + j)) (zL (σ 7)) (h 1)  ) ⟨(va_cnB 1 hts gX0_restoreLatest_X4_copyFrom_n25 rfl rfl rfl (kM_X0_25 hN) (hts _ qX0_restoreLatest_Cond_initialized_RX4) (by decide +kernel) (by rw [hR]; exact ⟨Nat.le_of_ble_eq_true rfl, Nat.le_of_ble_eq_true rfl⟩)), (hts _ qX0_restoreLatest_Cond_instanceMethod_yX4_copyFrom), (hts _ qX0_restoreLatest_Cond_selects_RX4_yX4_copyFrom_yX4_copyFrom)⟩ ⟨zBw_blind, va_recv hK hP (ci := 4) (q0 := 1) rfl rfl, (zp_w (wc := SX Y (fun j => A (1 + j)) (fun j => B (4 + j)) (σ 0) (σ 1) (σ 2) (σ 8) (zg σ) (fun j => σ (9 + j)) (zL (σ 7)) (h 1)) (hP.sub (ws' := SX Y (fun j => A (1 + j)) (fun j => B (4 + j)) (σ 0) (σ 1) (σ 2) (σ 8) (zg σ) (fun j => σ (9 + j)) (zL (σ 7)) (h 1)) [1, 2, 3, 4, 22, 23, 24, 25] rfl) (hD.sub (ws' := SX Y (fun j => A (1 + j)) (fun j => B (4 + j)) (σ 0) (σ 1) (σ 2) (σ 8) (zg σ) (fun j => σ (9 + j)) (zL (σ 7)) (h 1)) [1, 2, 3, 4, 22, 23, 24, 25] (by decide) rfl) hK hN)⟩ rfl rfl hl.1 rfl (lv_room (Nat.le_of_ble_eq_true rfl)) dX0_restoreLatest_27 ⟨Nat.zero_le _, Nat.zero_le _⟩).run hS (zA_of (hD.sub (ws' := SX Y (fun j => A (1 + j)) (fun j => B (4 + j)) (σ 0) (σ 1) (σ 2) (σ 8) (zg σ) (fun j => σ (9 + j)) (zL (σ 7)) (h 1)) [1, 2, 3, 4, 22, 23, 24, 25] (by decide) rfl)) (fun H1 locs hP1 hz hk hS => ?_)
    have hP := z_put (wc := SX Y (fun j => A (1 + j)) (fun j => B (4 + j)) (σ 0) (σ 1) (σ 2) (σ 8) (zg σ) (fun j => σ (9 + j)) (zL (σ 7)) (h 1)) (w1 := SX Y (fun j => A (1 + j)) (fun j => B (4 + j)) ((h 1) 0) ((h 1) 1) ((h 1) 2) ((h 1) 8) (zg (h 1)) (fun j => (h 1) (9 + j)) (zL ((h 1) 7)) (h 1)) hP hD [1, 2, 3, 4, 22, 23, 24, 25] rfl hk hP1 rfl
    clear hP1 hk
    generalize H1 = H at hP hS hz ⊢
    have hP : va_P D vwCl (CX Y A B (h 1) 1 h wd dd r0 r1 r2 r3 r4 rl rp rb wt wn) H := hP
    have hD : va_D FA (CX Y A B (h 1) 1 h wd dd r0 r1 r2 r3 r4 rl rp rb wt wn) := CX_dd hD
    exact zw_v hx hb hr hlk hQ hS dX0_restoreLatest_30 (hP)
set_option maxHeartbeats 4000000 in
set_option maxRecDepth 100000 in
theorem c_X0_restoreLatest_2 (l : Launch) (D : va_G) (Y : Nat → ClassId) (A : Nat → Nat) (B : Nat → Nat) (σ : Nat → Nat) (h : Nat → Nat → Nat) (wd : Nat → Nat) (dd : Nat) (r0 : Nat → Nat) (r1 : Nat → Nat) (r2 : Nat → Nat) (r3 : Nat → Nat) (r4 : Nat → Nat) (rl : Nat) (rp : Nat) (rb : Nat) (wt : Nat → Nat) (wn : Nat)    : Met l yX0_restoreLatest wsX0_restoreLatest ({ frames := 1, cells := 0, slots := 0, locals := 22 } : Room) (va_Pc [.ref (A 5), .ref (A 1)] (zBw D Y (CX Y A B σ 3 h wd dd r0 r1 r2 r3 r4 rl rp rb wt wn))) (zW none D (CX Y A B (h 2) 2 h wd dd r0 r1 r2 r3 r4 rl rp rb wt wn) (zA (CX Y A B σ 3 h wd dd r0 r1 r2 r3 r4 rl rp rb wt wn))) 0 0 (zA (CX Y A B σ 3 h wd dd r0 r1 r2 r3 r4 rl rp rb wt wn)) := by
  refine zw_of (cc := cX0_restoreLatest) (maxL := 2) (ret := none) (by decide) rfl (Nat.le_of_ble_eq_true rfl) ?_
  intro p e s m below meth c R args Q FA hR hx hb hml hr hlk hown hts hK hN hQ hP hD hS ls hl
  have hown : s.vm.findClass RX0 = some m.cls := hown
  have hl : lv_has ls 2 [(0, .ref (A 5)), (1, .ref (A 1))] := hl
  have hS := hS
  suffices hgo : ∀ (H : Heap) (locs : List Loc), va_P D vwCl (CX Y A B σ 3 h wd dd r0 r1 r2 r3 r4 rl rp rb wt wn) H → va_S FA s.heap H locs → W p l e R s m args below meth c H locs 0 0 Q (F0 m 0 ls []) from hgo _ _ hP hS
  clear hP hS
  intro H locs hP hS
  refine lv_aload_n hx hb dX0_restoreLatest_0 rfl (lv_at hl 0 rfl) ?_
  refine va_get (D := D) (ci := 0) (v := .int (nI 3)) (C := RX0) (T := TX0) (N := 2) hx hb hts qX0_restoreLatest_inX0 hown hK hP 5 rfl rfl 1 (by decide) (hts _ qX0_restoreLatest_Cond_fieldLink_RX0_18_NestedCodes_History_size_I_) (fun _ h9 => h9) rfl dX0_restoreLatest_1 ?_
  refine zn_if_le (tgt := 30)  hx hb dX0_restoreLatest_4 (by decide) (by omega) (fun c4 => ?_) (fun c4 => ?_)
  · exact absurd c4 (by omega)
  · refine lv_aload_n hx hb dX0_restoreLatest_7 rfl (lv_at hl 0 rfl) ?_
    refine lv_dup hx hb dX0_restoreLatest_8 rfl ?_
    refine va_get (D := D) (ci := 0) (v := .int (nI 3)) (C := RX0) (T := TX0) (N := 2) hx hb hts qX0_restoreLatest_inX0 hown hK hP 5 rfl rfl 1 (by decide) (hts _ qX0_restoreLatest_Cond_fieldLink_RX0_18_NestedCodes_History_size_I_) (fun _ h9 => h9) rfl dX0_restoreLatest_9 ?_
    refine lv_iconst (v := (nI 1)) hx hb dX0_restoreLatest_12 (by decide) ?_
    refine zv_isub hx hb (v := (nI 2)) dX0_restoreLatest_13 (by decide) ?_
    refine va_put (D := D) (ci := 0) (v := .int (nI 2)) (ty := .int) (C := RX0) (T := TX0) (N := 2) hx hb hts qX0_restoreLatest_inX0 tyX0 tyX0_ok nmX0 hown hK hP hD hS 5 rfl rfl 1 (by decide) (hts _ qX0_restoreLatest_Cond_fieldLink_RX0_18_NestedCodes_History_size_I_) (fun _ h9 => h9) rfl (by decide +kernel) rfl rfl (Nat.le_of_ble_eq_true rfl) dX0_restoreLatest_14 (fun H locs hP hD9 hS => ?_)
    rw [CX_f_hn] at hP
    have hP : va_P D vwCl (CX Y A B σ 2 h wd dd r0 r1 r2 r3 r4 rl rp rb wt wn) H := hP
    have hD : va_D FA (CX Y A B σ 2 h wd dd r0 r1 r2 r3 r4 rl rp rb wt wn) := CX_dd hD
    clear hD9
    refine lv_aload_n hx hb dX0_restoreLatest_17 rfl (lv_at hl 1 rfl) ?_
    refine lv_aload_n hx hb dX0_restoreLatest_18 rfl (lv_at hl 0 rfl) ?_
    refine va_get (D := D) (ci := 0) (v := .ref (A 6)) (C := RX0) (T := TX0) (N := 2) hx hb hts qX0_restoreLatest_inX0 hown hK hP 5 rfl rfl 0 (by decide) (hts _ qX0_restoreLatest_Cond_fieldLink_RX0_11_NestedCodes_History_states_LNestedCodes_State_) (fun _ h9 => h9) rfl dX0_restoreLatest_19 ?_
    refine lv_aload_n hx hb dX0_restoreLatest_22 rfl (lv_at hl 0 rfl) ?_
    refine va_get (D := D) (ci := 0) (v := .int (nI 2)) (C := RX0) (T := TX0) (N := 2) hx hb hts qX0_restoreLatest_inX0 hown hK hP 5 rfl rfl 1 (by decide) (hts _ qX0_restoreLatest_Cond_fieldLink_RX0_18_NestedCodes_History_size_I_) (fun _ h9 => h9) rfl dX0_restoreLatest_23 ?_
    refine za_q hx hb hK hP 6 (f := fun j => some (B (4 * j))) (v := B 8) rfl (by omega) (by decide) dX0_restoreLatest_26 (rfl) ?_
    refine zc_w (va_runVN (C := RX4) (As := [.ref (B 8)]) (rest := []) ⟨hx, hb, hml, hown, hts⟩ (c_X4_copyFrom l D Y (fun j => A (1 + j)) (fun j => B (8 + j)) (σ 0) (σ 1) (σ 2) (σ 8) (zg σ) (fun j => σ (9 + j)) (zL (σ 7)) (h 2)  ) ⟨(va_cnB 1 hts gX0_restoreLatest_X4_copyFrom_n25 rfl rfl rfl (kM_X0_25 hN) (hts _ qX0_restoreLatest_Cond_initialized_RX4) (by decide +kernel) (by rw [hR]; exact ⟨Nat.le_of_ble_eq_true rfl, Nat.le_of_ble_eq_true rfl⟩)), (hts _ qX0_restoreLatest_Cond_instanceMethod_yX4_copyFrom), (hts _ qX0_restoreLatest_Cond_selects_RX4_yX4_copyFrom_yX4_copyFrom)⟩ ⟨zBw_blind, va_recv hK hP (ci := 4) (q0 := 1) rfl rfl, (zp_w (wc := SX Y (fun j => A (1 + j)) (fun j => B (8 + j)) (σ 0) (σ 1) (σ 2) (σ 8) (zg σ) (fun j => σ (9 + j)) (zL (σ 7)) (h 2)) (hP.sub (ws' := SX Y (fun j => A (1 + j)) (fun j => B (8 + j)) (σ 0) (σ 1) (σ 2) (σ 8) (zg σ) (fun j => σ (9 + j)) (zL (σ 7)) (h 2)) [1, 2, 3, 4, 26, 27, 28, 29] rfl) (hD.sub (ws' := SX Y (fun j => A (1 + j)) (fun j => B (8 + j)) (σ 0) (σ 1) (σ 2) (σ 8) (zg σ) (fun j => σ (9 + j)) (zL (σ 7)) (h 2)) [1, 2, 3, 4, 26, 27, 28, 29] (by decide) rfl) hK hN)⟩ rfl rfl hl.1 rfl (lv_room (Nat.le_of_ble_eq_true rfl)) dX0_restoreLatest_27 ⟨Nat.zero_le _, Nat.zero_le _⟩).run hS (zA_of (hD.sub (ws' := SX Y (fun j => A (1 + j)) (fun j => B (8 + j)) (σ 0) (σ 1) (σ 2) (σ 8) (zg σ) (fun j => σ (9 + j)) (zL (σ 7)) (h 2)) [1, 2, 3, 4, 26, 27, 28, 29] (by decide) rfl)) (fun H1 locs hP1 hz hk hS => ?_)
    have hP := z_put (wc := SX Y (fun j => A (1 + j)) (fun j => B (8 + j)) (σ 0) (σ 1) (σ 2) (σ 8) (zg σ) (fun j => σ (9 + j)) (zL (σ 7)) (h 2)) (w1 := SX Y (fun j => A (1 + j)) (fun j => B (8 + j)) ((h 2) 0) ((h 2) 1) ((h 2) 2) ((h 2) 8) (zg (h 2)) (fun j => (h 2) (9 + j)) (zL ((h 2) 7)) (h 2)) hP hD [1, 2, 3, 4, 26, 27, 28, 29] rfl hk hP1 rfl
    clear hP1 hk
    generalize H1 = H at hP hS hz ⊢
    have hP : va_P D vwCl (CX Y A B (h 2) 2 h wd dd r0 r1 r2 r3 r4 rl rp rb wt wn) H := hP
    have hD : va_D FA (CX Y A B (h 2) 2 h wd dd r0 r1 r2 r3 r4 rl rp rb wt wn) := CX_dd hD
    exact zw_v hx hb hr hlk hQ hS dX0_restoreLatest_30 (hP)
set_option maxHeartbeats 4000000 in
set_option maxRecDepth 100000 in
theorem c_X0_restoreLatest_3 (l : Launch) (D : va_G) (Y : Nat → ClassId) (A : Nat → Nat) (B : Nat → Nat) (σ : Nat → Nat) (h : Nat → Nat → Nat) (wd : Nat → Nat) (dd : Nat) (r0 : Nat → Nat) (r1 : Nat → Nat) (r2 : Nat → Nat) (r3 : Nat → Nat) (r4 : Nat → Nat) (rl : Nat) (rp : Nat) (rb : Nat) (wt : Nat → Nat) (wn : Nat)    : Met l yX0_restoreLatest wsX0_restoreLatest ({ frames := 1, cells := 0, slots := 0, locals := 22 } : Room) (va_Pc [.ref (A 5), .ref (A 1)] (zBw D Y (CX Y A B σ 4 h wd dd r0 r1 r2 r3 r4 rl rp rb wt wn))) (zW none D (CX Y A B (h 3) 3 h wd dd r0 r1 r2 r3 r4 rl rp rb wt wn) (zA (CX Y A B σ 4 h wd dd r0 r1 r2 r3 r4 rl rp rb wt wn))) 0 0 (zA (CX Y A B σ 4 h wd dd r0 r1 r2 r3 r4 rl rp rb wt wn)) := by
  refine zw_of (cc := cX0_restoreLatest) (maxL := 2) (ret := none) (by decide) rfl (Nat.le_of_ble_eq_true rfl) ?_
  intro p e s m below meth c R args Q FA hR hx hb hml hr hlk hown hts hK hN hQ hP hD hS ls hl
  have hown : s.vm.findClass RX0 = some m.cls := hown
  have hl : lv_has ls 2 [(0, .ref (A 5)), (1, .ref (A 1))] := hl
  have hS := hS
  suffices hgo : ∀ (H : Heap) (locs : List Loc), va_P D vwCl (CX Y A B σ 4 h wd dd r0 r1 r2 r3 r4 rl rp rb wt wn) H → va_S FA s.heap H locs → W p l e R s m args below meth c H locs 0 0 Q (F0 m 0 ls []) from hgo _ _ hP hS
  clear hP hS
  intro H locs hP hS
  refine lv_aload_n hx hb dX0_restoreLatest_0 rfl (lv_at hl 0 rfl) ?_
  refine va_get (D := D) (ci := 0) (v := .int (nI 4)) (C := RX0) (T := TX0) (N := 2) hx hb hts qX0_restoreLatest_inX0 hown hK hP 5 rfl rfl 1 (by decide) (hts _ qX0_restoreLatest_Cond_fieldLink_RX0_18_NestedCodes_History_size_I_) (fun _ h9 => h9) rfl dX0_restoreLatest_1 ?_
  refine zn_if_le (tgt := 30)  hx hb dX0_restoreLatest_4 (by decide) (by omega) (fun c4 => ?_) (fun c4 => ?_)
  · exact absurd c4 (by omega)
  · refine lv_aload_n hx hb dX0_restoreLatest_7 rfl (lv_at hl 0 rfl) ?_
    refine lv_dup hx hb dX0_restoreLatest_8 rfl ?_
    refine va_get (D := D) (ci := 0) (v := .int (nI 4)) (C := RX0) (T := TX0) (N := 2) hx hb hts qX0_restoreLatest_inX0 hown hK hP 5 rfl rfl 1 (by decide) (hts _ qX0_restoreLatest_Cond_fieldLink_RX0_18_NestedCodes_History_size_I_) (fun _ h9 => h9) rfl dX0_restoreLatest_9 ?_
    refine lv_iconst (v := (nI 1)) hx hb dX0_restoreLatest_12 (by decide) ?_
    refine zv_isub hx hb (v := (nI 3)) dX0_restoreLatest_13 (by decide) ?_
    refine va_put (D := D) (ci := 0) (v := .int (nI 3)) (ty := .int) (C := RX0) (T := TX0) (N := 2) hx hb hts qX0_restoreLatest_inX0 tyX0 tyX0_ok nmX0 hown hK hP hD hS 5 rfl rfl 1 (by decide) (hts _ qX0_restoreLatest_Cond_fieldLink_RX0_18_NestedCodes_History_size_I_) (fun _ h9 => h9) rfl (by decide +kernel) rfl rfl (Nat.le_of_ble_eq_true rfl) dX0_restoreLatest_14 (fun H locs hP hD9 hS => ?_)
    rw [CX_f_hn] at hP
    have hP : va_P D vwCl (CX Y A B σ 3 h wd dd r0 r1 r2 r3 r4 rl rp rb wt wn) H := hP
    have hD : va_D FA (CX Y A B σ 3 h wd dd r0 r1 r2 r3 r4 rl rp rb wt wn) := CX_dd hD
    clear hD9
    refine lv_aload_n hx hb dX0_restoreLatest_17 rfl (lv_at hl 1 rfl) ?_
    refine lv_aload_n hx hb dX0_restoreLatest_18 rfl (lv_at hl 0 rfl) ?_
    refine va_get (D := D) (ci := 0) (v := .ref (A 6)) (C := RX0) (T := TX0) (N := 2) hx hb hts qX0_restoreLatest_inX0 hown hK hP 5 rfl rfl 0 (by decide) (hts _ qX0_restoreLatest_Cond_fieldLink_RX0_11_NestedCodes_History_states_LNestedCodes_State_) (fun _ h9 => h9) rfl dX0_restoreLatest_19 ?_
    refine lv_aload_n hx hb dX0_restoreLatest_22 rfl (lv_at hl 0 rfl) ?_
    refine va_get (D := D) (ci := 0) (v := .int (nI 3)) (C := RX0) (T := TX0) (N := 2) hx hb hts qX0_restoreLatest_inX0 hown hK hP 5 rfl rfl 1 (by decide) (hts _ qX0_restoreLatest_Cond_fieldLink_RX0_18_NestedCodes_History_size_I_) (fun _ h9 => h9) rfl dX0_restoreLatest_23 ?_
    refine za_q hx hb hK hP 6 (f := fun j => some (B (4 * j))) (v := B 12) rfl (by omega) (by decide) dX0_restoreLatest_26 (rfl) ?_
    refine zc_w (va_runVN (C := RX4) (As := [.ref (B 12)]) (rest := []) ⟨hx, hb, hml, hown, hts⟩ (c_X4_copyFrom l D Y (fun j => A (1 + j)) (fun j => B (12 + j)) (σ 0) (σ 1) (σ 2) (σ 8) (zg σ) (fun j => σ (9 + j)) (zL (σ 7)) (h 3)  ) ⟨(va_cnB 1 hts gX0_restoreLatest_X4_copyFrom_n25 rfl rfl rfl (kM_X0_25 hN) (hts _ qX0_restoreLatest_Cond_initialized_RX4) (by decide +kernel) (by rw [hR]; exact ⟨Nat.le_of_ble_eq_true rfl, Nat.le_of_ble_eq_true rfl⟩)), (hts _ qX0_restoreLatest_Cond_instanceMethod_yX4_copyFrom), (hts _ qX0_restoreLatest_Cond_selects_RX4_yX4_copyFrom_yX4_copyFrom)⟩ ⟨zBw_blind, va_recv hK hP (ci := 4) (q0 := 1) rfl rfl, (zp_w (wc := SX Y (fun j => A (1 + j)) (fun j => B (12 + j)) (σ 0) (σ 1) (σ 2) (σ 8) (zg σ) (fun j => σ (9 + j)) (zL (σ 7)) (h 3)) (hP.sub (ws' := SX Y (fun j => A (1 + j)) (fun j => B (12 + j)) (σ 0) (σ 1) (σ 2) (σ 8) (zg σ) (fun j => σ (9 + j)) (zL (σ 7)) (h 3)) [1, 2, 3, 4, 30, 31, 32, 33] rfl) (hD.sub (ws' := SX Y (fun j => A (1 + j)) (fun j => B (12 + j)) (σ 0) (σ 1) (σ 2) (σ 8) (zg σ) (fun j => σ (9 + j)) (zL (σ 7)) (h 3)) [1, 2, 3, 4, 30, 31, 32, 33] (by decide) rfl) hK hN)⟩ rfl rfl hl.1 rfl (lv_room (Nat.le_of_ble_eq_true rfl)) dX0_restoreLatest_27 ⟨Nat.zero_le _, Nat.zero_le _⟩).run hS (zA_of (hD.sub (ws' := SX Y (fun j => A (1 + j)) (fun j => B (12 + j)) (σ 0) (σ 1) (σ 2) (σ 8) (zg σ) (fun j => σ (9 + j)) (zL (σ 7)) (h 3)) [1, 2, 3, 4, 30, 31, 32, 33] (by decide) rfl)) (fun H1 locs hP1 hz hk hS => ?_)
    have hP := z_put (wc := SX Y (fun j => A (1 + j)) (fun j => B (12 + j)) (σ 0) (σ 1) (σ 2) (σ 8) (zg σ) (fun j => σ (9 + j)) (zL (σ 7)) (h 3)) (w1 := SX Y (fun j => A (1 + j)) (fun j => B (12 + j)) ((h 3) 0) ((h 3) 1) ((h 3) 2) ((h 3) 8) (zg (h 3)) (fun j => (h 3) (9 + j)) (zL ((h 3) 7)) (h 3)) hP hD [1, 2, 3, 4, 30, 31, 32, 33] rfl hk hP1 rfl
    clear hP1 hk
    generalize H1 = H at hP hS hz ⊢
    have hP : va_P D vwCl (CX Y A B (h 3) 3 h wd dd r0 r1 r2 r3 r4 rl rp rb wt wn) H := hP
    have hD : va_D FA (CX Y A B (h 3) 3 h wd dd r0 r1 r2 r3 r4 rl rp rb wt wn) := CX_dd hD
    exact zw_v hx hb hr hlk hQ hS dX0_restoreLatest_30 (hP)
set_option maxHeartbeats 4000000 in
set_option maxRecDepth 100000 in
theorem c_X0_restoreLatest_4 (l : Launch) (D : va_G) (Y : Nat → ClassId) (A : Nat → Nat) (B : Nat → Nat) (σ : Nat → Nat) (h : Nat → Nat → Nat) (wd : Nat → Nat) (dd : Nat) (r0 : Nat → Nat) (r1 : Nat → Nat) (r2 : Nat → Nat) (r3 : Nat → Nat) (r4 : Nat → Nat) (rl : Nat) (rp : Nat) (rb : Nat) (wt : Nat → Nat) (wn : Nat)    : Met l yX0_restoreLatest wsX0_restoreLatest ({ frames := 1, cells := 0, slots := 0, locals := 22 } : Room) (va_Pc [.ref (A 5), .ref (A 1)] (zBw D Y (CX Y A B σ 5 h wd dd r0 r1 r2 r3 r4 rl rp rb wt wn))) (zW none D (CX Y A B (h 4) 4 h wd dd r0 r1 r2 r3 r4 rl rp rb wt wn) (zA (CX Y A B σ 5 h wd dd r0 r1 r2 r3 r4 rl rp rb wt wn))) 0 0 (zA (CX Y A B σ 5 h wd dd r0 r1 r2 r3 r4 rl rp rb wt wn)) := by
  refine zw_of (cc := cX0_restoreLatest) (maxL := 2) (ret := none) (by decide) rfl (Nat.le_of_ble_eq_true rfl) ?_
  intro p e s m below meth c R args Q FA hR hx hb hml hr hlk hown hts hK hN hQ hP hD hS ls hl
  have hown : s.vm.findClass RX0 = some m.cls := hown
  have hl : lv_has ls 2 [(0, .ref (A 5)), (1, .ref (A 1))] := hl
  have hS := hS
  suffices hgo : ∀ (H : Heap) (locs : List Loc), va_P D vwCl (CX Y A B σ 5 h wd dd r0 r1 r2 r3 r4 rl rp rb wt wn) H → va_S FA s.heap H locs → W p l e R s m args below meth c H locs 0 0 Q (F0 m 0 ls []) from hgo _ _ hP hS
  clear hP hS
  intro H locs hP hS
  refine lv_aload_n hx hb dX0_restoreLatest_0 rfl (lv_at hl 0 rfl) ?_
  refine va_get (D := D) (ci := 0) (v := .int (nI 5)) (C := RX0) (T := TX0) (N := 2) hx hb hts qX0_restoreLatest_inX0 hown hK hP 5 rfl rfl 1 (by decide) (hts _ qX0_restoreLatest_Cond_fieldLink_RX0_18_NestedCodes_History_size_I_) (fun _ h9 => h9) rfl dX0_restoreLatest_1 ?_
  refine zn_if_le (tgt := 30)  hx hb dX0_restoreLatest_4 (by decide) (by omega) (fun c4 => ?_) (fun c4 => ?_)
  · exact absurd c4 (by omega)
  · refine lv_aload_n hx hb dX0_restoreLatest_7 rfl (lv_at hl 0 rfl) ?_
    refine lv_dup hx hb dX0_restoreLatest_8 rfl ?_
    refine va_get (D := D) (ci := 0) (v := .int (nI 5)) (C := RX0) (T := TX0) (N := 2) hx hb hts qX0_restoreLatest_inX0 hown hK hP 5 rfl rfl 1 (by decide) (hts _ qX0_restoreLatest_Cond_fieldLink_RX0_18_NestedCodes_History_size_I_) (fun _ h9 => h9) rfl dX0_restoreLatest_9 ?_
    refine lv_iconst (v := (nI 1)) hx hb dX0_restoreLatest_12 (by decide) ?_
    refine zv_isub hx hb (v := (nI 4)) dX0_restoreLatest_13 (by decide) ?_
    refine va_put (D := D) (ci := 0) (v := .int (nI 4)) (ty := .int) (C := RX0) (T := TX0) (N := 2) hx hb hts qX0_restoreLatest_inX0 tyX0 tyX0_ok nmX0 hown hK hP hD hS 5 rfl rfl 1 (by decide) (hts _ qX0_restoreLatest_Cond_fieldLink_RX0_18_NestedCodes_History_size_I_) (fun _ h9 => h9) rfl (by decide +kernel) rfl rfl (Nat.le_of_ble_eq_true rfl) dX0_restoreLatest_14 (fun H locs hP hD9 hS => ?_)
    rw [CX_f_hn] at hP
    have hP : va_P D vwCl (CX Y A B σ 4 h wd dd r0 r1 r2 r3 r4 rl rp rb wt wn) H := hP
    have hD : va_D FA (CX Y A B σ 4 h wd dd r0 r1 r2 r3 r4 rl rp rb wt wn) := CX_dd hD
    clear hD9
    refine lv_aload_n hx hb dX0_restoreLatest_17 rfl (lv_at hl 1 rfl) ?_
    refine lv_aload_n hx hb dX0_restoreLatest_18 rfl (lv_at hl 0 rfl) ?_
    refine va_get (D := D) (ci := 0) (v := .ref (A 6)) (C := RX0) (T := TX0) (N := 2) hx hb hts qX0_restoreLatest_inX0 hown hK hP 5 rfl rfl 0 (by decide) (hts _ qX0_restoreLatest_Cond_fieldLink_RX0_11_NestedCodes_History_states_LNestedCodes_State_) (fun _ h9 => h9) rfl dX0_restoreLatest_19 ?_
    refine lv_aload_n hx hb dX0_restoreLatest_22 rfl (lv_at hl 0 rfl) ?_
    refine va_get (D := D) (ci := 0) (v := .int (nI 4)) (C := RX0) (T := TX0) (N := 2) hx hb hts qX0_restoreLatest_inX0 hown hK hP 5 rfl rfl 1 (by decide) (hts _ qX0_restoreLatest_Cond_fieldLink_RX0_18_NestedCodes_History_size_I_) (fun _ h9 => h9) rfl dX0_restoreLatest_23 ?_
    refine za_q hx hb hK hP 6 (f := fun j => some (B (4 * j))) (v := B 16) rfl (by omega) (by decide) dX0_restoreLatest_26 (rfl) ?_
    refine zc_w (va_runVN (C := RX4) (As := [.ref (B 16)]) (rest := []) ⟨hx, hb, hml, hown, hts⟩ (c_X4_copyFrom l D Y (fun j => A (1 + j)) (fun j => B (16 + j)) (σ 0) (σ 1) (σ 2) (σ 8) (zg σ) (fun j => σ (9 + j)) (zL (σ 7)) (h 4)  ) ⟨(va_cnB 1 hts gX0_restoreLatest_X4_copyFrom_n25 rfl rfl rfl (kM_X0_25 hN) (hts _ qX0_restoreLatest_Cond_initialized_RX4) (by decide +kernel) (by rw [hR]; exact ⟨Nat.le_of_ble_eq_true rfl, Nat.le_of_ble_eq_true rfl⟩)), (hts _ qX0_restoreLatest_Cond_instanceMethod_yX4_copyFrom), (hts _ qX0_restoreLatest_Cond_selects_RX4_yX4_copyFrom_yX4_copyFrom)⟩ ⟨zBw_blind, va_recv hK hP (ci := 4) (q0 := 1) rfl rfl, (zp_w (wc := SX Y (fun j => A (1 + j)) (fun j => B (16 + j)) (σ 0) (σ 1) (σ 2) (σ 8) (zg σ) (fun j => σ (9 + j)) (zL (σ 7)) (h 4)) (hP.sub (ws' := SX Y (fun j => A (1 + j)) (fun j => B (16 + j)) (σ 0) (σ 1) (σ 2) (σ 8) (zg σ) (fun j => σ (9 + j)) (zL (σ 7)) (h 4)) [1, 2, 3, 4, 34, 35, 36, 37] rfl) (hD.sub (ws' := SX Y (fun j => A (1 + j)) (fun j => B (16 + j)) (σ 0) (σ 1) (σ 2) (σ 8) (zg σ) (fun j => σ (9 + j)) (zL (σ 7)) (h 4)) [1, 2, 3, 4, 34, 35, 36, 37] (by decide) rfl) hK hN)⟩ rfl rfl hl.1 rfl (lv_room (Nat.le_of_ble_eq_true rfl)) dX0_restoreLatest_27 ⟨Nat.zero_le _, Nat.zero_le _⟩).run hS (zA_of (hD.sub (ws' := SX Y (fun j => A (1 + j)) (fun j => B (16 + j)) (σ 0) (σ 1) (σ 2) (σ 8) (zg σ) (fun j => σ (9 + j)) (zL (σ 7)) (h 4)) [1, 2, 3, 4, 34, 35, 36, 37] (by decide) rfl)) (fun H1 locs hP1 hz hk hS => ?_)
    have hP := z_put (wc := SX Y (fun j => A (1 + j)) (fun j => B (16 + j)) (σ 0) (σ 1) (σ 2) (σ 8) (zg σ) (fun j => σ (9 + j)) (zL (σ 7)) (h 4)) (w1 := SX Y (fun j => A (1 + j)) (fun j => B (16 + j)) ((h 4) 0) ((h 4) 1) ((h 4) 2) ((h 4) 8) (zg (h 4)) (fun j => (h 4) (9 + j)) (zL ((h 4) 7)) (h 4)) hP hD [1, 2, 3, 4, 34, 35, 36, 37] rfl hk hP1 rfl
    clear hP1 hk
    generalize H1 = H at hP hS hz ⊢
    have hP : va_P D vwCl (CX Y A B (h 4) 4 h wd dd r0 r1 r2 r3 r4 rl rp rb wt wn) H := hP
    have hD : va_D FA (CX Y A B (h 4) 4 h wd dd r0 r1 r2 r3 r4 rl rp rb wt wn) := CX_dd hD
    exact zw_v hx hb hr hlk hQ hS dX0_restoreLatest_30 (hP)
set_option maxHeartbeats 4000000 in
set_option maxRecDepth 100000 in
theorem c_X0_restoreLatest_5 (l : Launch) (D : va_G) (Y : Nat → ClassId) (A : Nat → Nat) (B : Nat → Nat) (σ : Nat → Nat) (h : Nat → Nat → Nat) (wd : Nat → Nat) (dd : Nat) (r0 : Nat → Nat) (r1 : Nat → Nat) (r2 : Nat → Nat) (r3 : Nat → Nat) (r4 : Nat → Nat) (rl : Nat) (rp : Nat) (rb : Nat) (wt : Nat → Nat) (wn : Nat)    : Met l yX0_restoreLatest wsX0_restoreLatest ({ frames := 1, cells := 0, slots := 0, locals := 22 } : Room) (va_Pc [.ref (A 5), .ref (A 1)] (zBw D Y (CX Y A B σ 6 h wd dd r0 r1 r2 r3 r4 rl rp rb wt wn))) (zW none D (CX Y A B (h 5) 5 h wd dd r0 r1 r2 r3 r4 rl rp rb wt wn) (zA (CX Y A B σ 6 h wd dd r0 r1 r2 r3 r4 rl rp rb wt wn))) 0 0 (zA (CX Y A B σ 6 h wd dd r0 r1 r2 r3 r4 rl rp rb wt wn)) := by
  refine zw_of (cc := cX0_restoreLatest) (maxL := 2) (ret := none) (by decide) rfl (Nat.le_of_ble_eq_true rfl) ?_
  intro p e s m below meth c R args Q FA hR hx hb hml hr hlk hown hts hK hN hQ hP hD hS ls hl
  have hown : s.vm.findClass RX0 = some m.cls := hown
  have hl : lv_has ls 2 [(0, .ref (A 5)), (1, .ref (A 1))] := hl
  have hS := hS
  suffices hgo : ∀ (H : Heap) (locs : List Loc), va_P D vwCl (CX Y A B σ 6 h wd dd r0 r1 r2 r3 r4 rl rp rb wt wn) H → va_S FA s.heap H locs → W p l e R s m args below meth c H locs 0 0 Q (F0 m 0 ls []) from hgo _ _ hP hS
  clear hP hS
  intro H locs hP hS
  refine lv_aload_n hx hb dX0_restoreLatest_0 rfl (lv_at hl 0 rfl) ?_
  refine va_get (D := D) (ci := 0) (v := .int (nI 6)) (C := RX0) (T := TX0) (N := 2) hx hb hts qX0_restoreLatest_inX0 hown hK hP 5 rfl rfl 1 (by decide) (hts _ qX0_restoreLatest_Cond_fieldLink_RX0_18_NestedCodes_History_size_I_) (fun _ h9 => h9) rfl dX0_restoreLatest_1 ?_
  refine zn_if_le (tgt := 30)  hx hb dX0_restoreLatest_4 (by decide) (by omega) (fun c4 => ?_) (fun c4 => ?_)
  · exact absurd c4 (by omega)
  · refine lv_aload_n hx hb dX0_restoreLatest_7 rfl (lv_at hl 0 rfl) ?_
    refine lv_dup hx hb dX0_restoreLatest_8 rfl ?_
    refine va_get (D := D) (ci := 0) (v := .int (nI 6)) (C := RX0) (T := TX0) (N := 2) hx hb hts qX0_restoreLatest_inX0 hown hK hP 5 rfl rfl 1 (by decide) (hts _ qX0_restoreLatest_Cond_fieldLink_RX0_18_NestedCodes_History_size_I_) (fun _ h9 => h9) rfl dX0_restoreLatest_9 ?_
    refine lv_iconst (v := (nI 1)) hx hb dX0_restoreLatest_12 (by decide) ?_
    refine zv_isub hx hb (v := (nI 5)) dX0_restoreLatest_13 (by decide) ?_
    refine va_put (D := D) (ci := 0) (v := .int (nI 5)) (ty := .int) (C := RX0) (T := TX0) (N := 2) hx hb hts qX0_restoreLatest_inX0 tyX0 tyX0_ok nmX0 hown hK hP hD hS 5 rfl rfl 1 (by decide) (hts _ qX0_restoreLatest_Cond_fieldLink_RX0_18_NestedCodes_History_size_I_) (fun _ h9 => h9) rfl (by decide +kernel) rfl rfl (Nat.le_of_ble_eq_true rfl) dX0_restoreLatest_14 (fun H locs hP hD9 hS => ?_)
    rw [CX_f_hn] at hP
    have hP : va_P D vwCl (CX Y A B σ 5 h wd dd r0 r1 r2 r3 r4 rl rp rb wt wn) H := hP
    have hD : va_D FA (CX Y A B σ 5 h wd dd r0 r1 r2 r3 r4 rl rp rb wt wn) := CX_dd hD
    clear hD9
    refine lv_aload_n hx hb dX0_restoreLatest_17 rfl (lv_at hl 1 rfl) ?_
    refine lv_aload_n hx hb dX0_restoreLatest_18 rfl (lv_at hl 0 rfl) ?_
    refine va_get (D := D) (ci := 0) (v := .ref (A 6)) (C := RX0) (T := TX0) (N := 2) hx hb hts qX0_restoreLatest_inX0 hown hK hP 5 rfl rfl 0 (by decide) (hts _ qX0_restoreLatest_Cond_fieldLink_RX0_11_NestedCodes_History_states_LNestedCodes_State_) (fun _ h9 => h9) rfl dX0_restoreLatest_19 ?_
    refine lv_aload_n hx hb dX0_restoreLatest_22 rfl (lv_at hl 0 rfl) ?_
    refine va_get (D := D) (ci := 0) (v := .int (nI 5)) (C := RX0) (T := TX0) (N := 2) hx hb hts qX0_restoreLatest_inX0 hown hK hP 5 rfl rfl 1 (by decide) (hts _ qX0_restoreLatest_Cond_fieldLink_RX0_18_NestedCodes_History_size_I_) (fun _ h9 => h9) rfl dX0_restoreLatest_23 ?_
    refine za_q hx hb hK hP 6 (f := fun j => some (B (4 * j))) (v := B 20) rfl (by omega) (by decide) dX0_restoreLatest_26 (rfl) ?_
    refine zc_w (va_runVN (C := RX4) (As := [.ref (B 20)]) (rest := []) ⟨hx, hb, hml, hown, hts⟩ (c_X4_copyFrom l D Y (fun j => A (1 + j)) (fun j => B (20 + j)) (σ 0) (σ 1) (σ 2) (σ 8) (zg σ) (fun j => σ (9 + j)) (zL (σ 7)) (h 5)  ) ⟨(va_cnB 1 hts gX0_restoreLatest_X4_copyFrom_n25 rfl rfl rfl (kM_X0_25 hN) (hts _ qX0_restoreLatest_Cond_initialized_RX4) (by decide +kernel) (by rw [hR]; exact ⟨Nat.le_of_ble_eq_true rfl, Nat.le_of_ble_eq_true rfl⟩)), (hts _ qX0_restoreLatest_Cond_instanceMethod_yX4_copyFrom), (hts _ qX0_restoreLatest_Cond_selects_RX4_yX4_copyFrom_yX4_copyFrom)⟩ ⟨zBw_blind, va_recv hK hP (ci := 4) (q0 := 1) rfl rfl, (zp_w (wc := SX Y (fun j => A (1 + j)) (fun j => B (20 + j)) (σ 0) (σ 1) (σ 2) (σ 8) (zg σ) (fun j => σ (9 + j)) (zL (σ 7)) (h 5)) (hP.sub (ws' := SX Y (fun j => A (1 + j)) (fun j => B (20 + j)) (σ 0) (σ 1) (σ 2) (σ 8) (zg σ) (fun j => σ (9 + j)) (zL (σ 7)) (h 5)) [1, 2, 3, 4, 38, 39, 40, 41] rfl) (hD.sub (ws' := SX Y (fun j => A (1 + j)) (fun j => B (20 + j)) (σ 0) (σ 1) (σ 2) (σ 8) (zg σ) (fun j => σ (9 + j)) (zL (σ 7)) (h 5)) [1, 2, 3, 4, 38, 39, 40, 41] (by decide) rfl) hK hN)⟩ rfl rfl hl.1 rfl (lv_room (Nat.le_of_ble_eq_true rfl)) dX0_restoreLatest_27 ⟨Nat.zero_le _, Nat.zero_le _⟩).run hS (zA_of (hD.sub (ws' := SX Y (fun j => A (1 + j)) (fun j => B (20 + j)) (σ 0) (σ 1) (σ 2) (σ 8) (zg σ) (fun j => σ (9 + j)) (zL (σ 7)) (h 5)) [1, 2, 3, 4, 38, 39, 40, 41] (by decide) rfl)) (fun H1 locs hP1 hz hk hS => ?_)
    have hP := z_put (wc := SX Y (fun j => A (1 + j)) (fun j => B (20 + j)) (σ 0) (σ 1) (σ 2) (σ 8) (zg σ) (fun j => σ (9 + j)) (zL (σ 7)) (h 5)) (w1 := SX Y (fun j => A (1 + j)) (fun j => B (20 + j)) ((h 5) 0) ((h 5) 1) ((h 5) 2) ((h 5) 8) (zg (h 5)) (fun j => (h 5) (9 + j)) (zL ((h 5) 7)) (h 5)) hP hD [1, 2, 3, 4, 38, 39, 40, 41] rfl hk hP1 rfl
    clear hP1 hk
    generalize H1 = H at hP hS hz ⊢
    have hP : va_P D vwCl (CX Y A B (h 5) 5 h wd dd r0 r1 r2 r3 r4 rl rp rb wt wn) H := hP
    have hD : va_D FA (CX Y A B (h 5) 5 h wd dd r0 r1 r2 r3 r4 rl rp rb wt wn) := CX_dd hD
    exact zw_v hx hb hr hlk hQ hS dX0_restoreLatest_30 (hP)
theorem c_X0_restoreLatest (l : Launch) (D : va_G) (Y : Nat → ClassId) (A : Nat → Nat) (B : Nat → Nat) (σ : Nat → Nat) (hn : Nat) (h : Nat → Nat → Nat) (wd : Nat → Nat) (dd : Nat) (r0 : Nat → Nat) (r1 : Nat → Nat) (r2 : Nat → Nat) (r3 : Nat → Nat) (r4 : Nat → Nat) (rl : Nat) (rp : Nat) (rb : Nat) (wt : Nat → Nat) (wn : Nat) (khn : hn ≤ 6) (hn0 : 0 < hn) : Met l yX0_restoreLatest wsX0_restoreLatest ({ frames := 1, cells := 0, slots := 0, locals := 22 } : Room) (va_Pc [.ref (A 5), .ref (A 1)] (zBw D Y (CX Y A B σ hn h wd dd r0 r1 r2 r3 r4 rl rp rb wt wn))) (zW none D (CX Y A B (h (hn - 1)) (hn - 1) h wd dd r0 r1 r2 r3 r4 rl rp rb wt wn) (zA (CX Y A B σ hn h wd dd r0 r1 r2 r3 r4 rl rp rb wt wn))) 0 0 (zA (CX Y A B σ hn h wd dd r0 r1 r2 r3 r4 rl rp rb wt wn)) := by
  rcases (show hn = 1 ∨ hn = 2 ∨ hn = 3 ∨ hn = 4 ∨ hn = 5 ∨ hn = 6 by omega) with rfl | rfl | rfl | rfl | rfl | rfl
  · exact c_X0_restoreLatest_0 l D Y A B σ h wd dd r0 r1 r2 r3 r4 rl rp rb wt wn
  · exact c_X0_restoreLatest_1 l D Y A B σ h wd dd r0 r1 r2 r3 r4 rl rp rb wt wn
  · exact c_X0_restoreLatest_2 l D Y A B σ h wd dd r0 r1 r2 r3 r4 rl rp rb wt wn
  · exact c_X0_restoreLatest_3 l D Y A B σ h wd dd r0 r1 r2 r3 r4 rl rp rb wt wn
  · exact c_X0_restoreLatest_4 l D Y A B σ h wd dd r0 r1 r2 r3 r4 rl rp rb wt wn
  · exact c_X0_restoreLatest_5 l D Y A B σ h wd dd r0 r1 r2 r3 r4 rl rp rb wt wn
