theorem kM_X1_19 {s : State} (hN : zNw s) : va_Nw (Cond.methodLinkNest RX1 19 yX5_generatedWord "NestedCodes") s := show va_Nw (Cond.methodLinkNest RX1 19 yX5_generatedWord "NestedCodes") s from hN.2 ("NestedCodes$InnerCode", 19, yX5_generatedWord, "NestedCodes") (by decide +kernel)
def AX (Y : Nat → ClassId) (a : Nat) (g : Nat → Nat) : va_W := [(a, .inl (Y 0, 4, .inl (fun j => nI (g j))))]
theorem wdS_0 (σ : Nat → Nat) : wdS σ 0 = 0 := by simp [wdS, gw]
set_option maxHeartbeats 4000000 in
set_option maxRecDepth 100000 in
theorem c_X5_generatedWord (l : Launch) (D : va_G) (Y : Nat → ClassId) (a : Nat) (g : Nat → Nat) (s0 : Nat)  (hs : s0 < 16) : Met l yX5_generatedWord wsX5_generatedWord ({ frames := 0, cells := 0, slots := 0, locals := 0 } : Room) (va_Pc [.ref (a), .int (nI s0)] (zB D Y (AX Y a g))) (zR (.int (nI (gw g s0 4)))) 0 0 (fun _ => False) := by
  refine zr_of (cc := cX5_generatedWord) (maxL := 4) (ret := (some .int)) (by decide) rfl (Nat.le_of_ble_eq_true rfl) ?_
  intro p e s m below meth c R args Q hR hx hb hml hr hlk hown hts hK hN hP hQ ls hl
  have hown : s.vm.findClass RX5 = some m.cls := hown
  have hl : lv_has ls 4 [(0, .ref (a)), (1, .int (nI s0))] := hl
  refine lv_iconst (v := (nI 0)) hx hb dX5_generatedWord_0 (by decide) ?_
  refine lv_istore_n (lv' := [(2, .int (nI 0)), (0, .ref (a)), (1, .int (nI s0))]) hx hb dX5_generatedWord_1 rfl hl (by decide) rfl (fun ls hl => ?_)
  refine lv_iconst (v := (nI 0)) hx hb dX5_generatedWord_2 (by decide) ?_
  refine lv_istore_n (lv' := [(3, .int (nI 0)), (2, .int (nI 0)), (0, .ref (a)), (1, .int (nI s0))]) hx hb dX5_generatedWord_3 rfl hl (by decide) rfl (fun ls hl => ?_)
  have L4 : ∀ (n9 : Nat) (i : Nat) (hi : i ≤ 4), 4 - i < n9 → ∀ ls : Array Slot, lv_has ls 4 [(3, .int (nI i)), (2, .int (nI (gw g s0 i))), (0, .ref (a)), (1, .int (nI s0))] → W p l e R s m args below meth c s.heap [] 0 0 Q (F0 m 4 ls []) := by
    intro n9
    induction n9 with
    | zero => intro i hi hn9; exact absurd hn9 (Nat.not_lt_zero _)
    | succ n9 ih9 =>
      have ih4 := ih9
      clear ih9
      intro i hi hn9 ls hl
      refine lv_iload_n hx hb dX5_generatedWord_4 rfl (lv_at hl 0 rfl) ?_
      refine lv_iconst (v := (nI 4)) hx hb dX5_generatedWord_5 (by decide) ?_
      refine zn_icmp_ge (tgt := 30)  hx hb dX5_generatedWord_6 (by decide) (by omega) (by omega) (fun c6 => ?_) (fun c6 => ?_)
      · obtain rfl : i = 4 := by omega
        refine lv_iload_n hx hb dX5_generatedWord_30 rfl (lv_at hl 1 rfl) ?_
        exact zr_i hx hb hr hlk hQ dX5_generatedWord_31 (rfl)
      · refine lv_iload_n hx hb dX5_generatedWord_9 rfl (lv_at hl 3 rfl) ?_
        refine lv_iload_n hx hb dX5_generatedWord_10 rfl (lv_at hl 0 rfl) ?_
        refine zv_ishr hx hb (v := (nI (s0 / 2 ^ i))) dX5_generatedWord_11 (zShr (by omega) (by omega)) ?_
        refine lv_iconst (v := (nI 1)) hx hb dX5_generatedWord_12 (by decide) ?_
        refine zv_iand hx hb (v := (nI ((s0 / 2 ^ i) % 2))) dX5_generatedWord_13 (znand1 _) ?_
        refine lv_iconst (v := (nI 1)) hx hb dX5_generatedWord_14 (by decide) ?_
        refine zn_icmp_ne (tgt := 24)  hx hb dX5_generatedWord_15 (by decide) (by omega) (by omega) (fun c15 => ?_) (fun c15 => ?_)
        · refine lv_iinc (v := (nI (i + 1))) (lv' := [(3, .int (nI (i + 1))), (2, .int (nI (gw g s0 i))), (0, .ref (a)), (1, .int (nI s0))]) hx hb dX5_generatedWord_24 hl (k := 0) rfl (zinc _) (by decide) rfl (fun ls hl => ?_)
          refine lv_goto (tgt := 4) hx hb dX5_generatedWord_27 (by decide) ?_
          rw [show (.int (nI (gw g s0 i)) : Value) = .int (nI (gw g s0 (i + 1))) from congrArg _ (congrArg nI (show _ = gw g s0 i ^^^ (if _ then _ else _) from by rw [if_neg c15, Nat.xor_zero]))] at hl
          exact ih4 (i + 1) (by omega) (by omega) ls (lv_sub hl [0, 1, 2, 3] rfl)
        · refine lv_iload_n hx hb dX5_generatedWord_18 rfl (lv_at hl 1 rfl) ?_
          refine lv_aload_n hx hb dX5_generatedWord_19 rfl (lv_at hl 2 rfl) ?_
          refine lv_iload_n hx hb dX5_generatedWord_20 rfl (lv_at hl 0 rfl) ?_
          refine za_i hx hb hK hP 0 (f := fun k9 => nI (g k9)) (v := (nI (g i))) rfl (by omega) (by decide) dX5_generatedWord_21 (rfl) ?_
          refine zv_ixor hx hb (v := (nI ((gw g s0 i) ^^^ (g i)))) dX5_generatedWord_22 (nx_xor _ _) ?_
          refine lv_istore_n (lv' := [(2, .int (nI ((gw g s0 i) ^^^ (g i)))), (3, .int (nI i)), (0, .ref (a)), (1, .int (nI s0))]) hx hb dX5_generatedWord_23 rfl hl (by decide) rfl (fun ls hl => ?_)
          refine lv_iinc (v := (nI (i + 1))) (lv' := [(3, .int (nI (i + 1))), (2, .int (nI ((gw g s0 i) ^^^ (g i)))), (0, .ref (a)), (1, .int (nI s0))]) hx hb dX5_generatedWord_24 hl (k := 1) rfl (zinc _) (by decide) rfl (fun ls hl => ?_)
          refine lv_goto (tgt := 4) hx hb dX5_generatedWord_27 (by decide) ?_
          rw [show (.int (nI ((gw g s0 i) ^^^ (g i))) : Value) = .int (nI (gw g s0 (i + 1))) from congrArg _ (congrArg nI (show _ = gw g s0 i ^^^ (if _ then _ else _) from by rw [if_pos (by omega)]))] at hl
          exact ih4 (i + 1) (by omega) (by omega) ls (lv_sub hl [0, 1, 2, 3] rfl)
  exact L4 (4 - 0 + 1) 0 (by omega) (Nat.lt_succ_self _) ls (lv_sub hl [0, 1, 2, 3] rfl)
set_option maxHeartbeats 4000000 in
set_option maxRecDepth 100000 in
theorem c_X5_fieldProduct (l : Launch) (D : va_G) (Y : Nat → ClassId)  (a : Nat) (b : Nat)  (ha : a < 16) (hb9 : b < 16) : Met l yX5_fieldProduct wsX5_fieldProduct ({ frames := 0, cells := 0, slots := 0, locals := 0 } : Room) (va_Pc [.int (nI a), .int (nI b)] (zB D Y ([]))) (zR (.int (nI (gmul a b)))) 0 0 (fun _ => False) := by
  refine zr_of (cc := cX5_fieldProduct) (maxL := 5) (ret := (some .int)) (by decide) rfl (Nat.le_of_ble_eq_true rfl) ?_
  intro p e s m below meth c R args Q hR hx hb hml hr hlk hown hts hK hN hP hQ ls hl
  have hown : s.vm.findClass RX5 = some m.cls := hown
  have hl : lv_has ls 5 [(0, .int (nI a)), (1, .int (nI b))] := hl
  refine lv_iconst (v := (nI 0)) hx hb dX5_fieldProduct_0 (by decide) ?_
  refine lv_istore_n (lv' := [(2, .int (nI 0)), (0, .int (nI a)), (1, .int (nI b))]) hx hb dX5_fieldProduct_1 rfl hl (by decide) rfl (fun ls hl => ?_)
  refine lv_iload_n hx hb dX5_fieldProduct_2 rfl (lv_at hl 1 rfl) ?_
  refine lv_istore_n (lv' := [(3, .int (nI a)), (2, .int (nI 0)), (0, .int (nI a)), (1, .int (nI b))]) hx hb dX5_fieldProduct_3 rfl hl (by decide) rfl (fun ls hl => ?_)
  refine lv_iconst (v := (nI 0)) hx hb dX5_fieldProduct_4 (by decide) ?_
  refine lv_istore (lv' := [(4, .int (nI 0)), (3, .int (nI a)), (2, .int (nI 0)), (0, .int (nI a)), (1, .int (nI b))]) hx hb dX5_fieldProduct_5 hl (by decide) rfl (fun ls hl => ?_)
  have L7 : ∀ (n9 : Nat) (i : Nat) (hi : i ≤ 4), 4 - i < n9 → ∀ ls : Array Slot, lv_has ls 5 [(4, .int (nI i)), (3, .int (nI ((fpS a b i).2))), (2, .int (nI ((fpS a b i).1))), (0, .int (nI a)), (1, .int (nI b))] → W p l e R s m args below meth c s.heap [] 0 0 Q (F0 m 7 ls []) := by
    intro n9
    induction n9 with
    | zero => intro i hi hn9; exact absurd hn9 (Nat.not_lt_zero _)
    | succ n9 ih9 =>
      have ih7 := ih9
      clear ih9
      intro i hi hn9 ls hl
      have hfp := fpS_lt (i := i) ha hb9 hi
      refine lv_iload hx hb dX5_fieldProduct_7 (lv_at hl 0 rfl) ?_
      refine lv_iconst (v := (nI 4)) hx hb dX5_fieldProduct_9 (by decide) ?_
      refine zn_icmp_ge (tgt := 48)  hx hb dX5_fieldProduct_10 (by decide) (by omega) (by omega) (fun c10 => ?_) (fun c10 => ?_)
      · obtain rfl : i = 4 := by omega
        refine lv_iload_n hx hb dX5_fieldProduct_48 rfl (lv_at hl 2 rfl) ?_
        exact zr_i hx hb hr hlk hQ dX5_fieldProduct_49 (rfl)
      · refine lv_iload_n hx hb dX5_fieldProduct_13 rfl (lv_at hl 4 rfl) ?_
        refine lv_iload hx hb dX5_fieldProduct_14 (lv_at hl 0 rfl) ?_
        refine zv_ishr hx hb (v := (nI (b / 2 ^ i))) dX5_fieldProduct_16 (zShr (by omega) (by omega)) ?_
        refine lv_iconst (v := (nI 1)) hx hb dX5_fieldProduct_17 (by decide) ?_
        refine zv_iand hx hb (v := (nI ((b / 2 ^ i) % 2))) dX5_fieldProduct_18 (znand1 _) ?_
        refine lv_iconst (v := (nI 1)) hx hb dX5_fieldProduct_19 (by decide) ?_
        refine zn_icmp_ne (tgt := 27)  hx hb dX5_fieldProduct_20 (by decide) (by omega) (by omega) (fun c20 => ?_) (fun c20 => ?_)
        · refine lv_iload_n hx hb dX5_fieldProduct_27 rfl (lv_at hl 1 rfl) ?_
          refine lv_iconst (v := (nI 1)) hx hb dX5_fieldProduct_28 (by decide) ?_
          refine zv_ishl hx hb (v := (nI ((fpS a b i).2 * 2))) dX5_fieldProduct_29 (zShl (s := 1) (by decide) (by omega)) ?_
          refine lv_istore_n (lv' := [(3, .int (nI ((fpS a b i).2 * 2))), (4, .int (nI i)), (2, .int (nI ((fpS a b i).1))), (0, .int (nI a)), (1, .int (nI b))]) hx hb dX5_fieldProduct_30 rfl hl (by decide) rfl (fun ls hl => ?_)
          refine lv_iload_n hx hb dX5_fieldProduct_31 rfl (lv_at hl 0 rfl) ?_
          refine lv_bipush (v := (nI 16)) hx hb dX5_fieldProduct_32 (by decide) ?_
          refine zn_icmp_lt (tgt := 42)  hx hb dX5_fieldProduct_34 (by decide) (by omega) (by omega) (fun c34 => ?_) (fun c34 => ?_)
          · refine lv_iinc (v := (nI (i + 1))) (lv' := [(4, .int (nI (i + 1))), (3, .int (nI ((fpS a b i).2 * 2))), (2, .int (nI ((fpS a b i).1))), (0, .int (nI a)), (1, .int (nI b))]) hx hb dX5_fieldProduct_42 hl (k := 1) rfl (zinc _) (by decide) rfl (fun ls hl => ?_)
            refine lv_goto (tgt := 7) hx hb dX5_fieldProduct_45 (by decide) ?_
            rw [show (.int (nI ((fpS a b i).2 * 2)) : Value) = .int (nI ((fpS a b (i + 1)).2)) from congrArg _ (congrArg nI (show _ = (if 16 ≤ (fpS a b i).2 * 2 then _ else _) from by first | rw [if_pos (by omega)] | rw [if_neg (by omega)]))] at hl
            rw [show (.int (nI ((fpS a b i).1)) : Value) = .int (nI ((fpS a b (i + 1)).1)) from congrArg _ (congrArg nI (show _ = (if b / 2 ^ i % 2 = 1 then _ else _) from by first | rw [if_pos (by omega)] | rw [if_neg (by omega)]))] at hl
            exact ih7 (i + 1) (by omega) (by omega) ls (lv_sub hl [0, 1, 2, 3, 4] rfl)
          · refine lv_iload_n hx hb dX5_fieldProduct_37 rfl (lv_at hl 0 rfl) ?_
            refine lv_bipush (v := (nI 19)) hx hb dX5_fieldProduct_38 (by decide) ?_
            refine zv_ixor hx hb (v := (nI (((fpS a b i).2 * 2) ^^^ 19))) dX5_fieldProduct_40 (nx_xor _ _) ?_
            refine lv_istore_n (lv' := [(3, .int (nI (((fpS a b i).2 * 2) ^^^ 19))), (4, .int (nI i)), (2, .int (nI ((fpS a b i).1))), (0, .int (nI a)), (1, .int (nI b))]) hx hb dX5_fieldProduct_41 rfl hl (by decide) rfl (fun ls hl => ?_)
            refine lv_iinc (v := (nI (i + 1))) (lv' := [(4, .int (nI (i + 1))), (3, .int (nI (((fpS a b i).2 * 2) ^^^ 19))), (2, .int (nI ((fpS a b i).1))), (0, .int (nI a)), (1, .int (nI b))]) hx hb dX5_fieldProduct_42 hl (k := 1) rfl (zinc _) (by decide) rfl (fun ls hl => ?_)
            refine lv_goto (tgt := 7) hx hb dX5_fieldProduct_45 (by decide) ?_
            rw [show (.int (nI (((fpS a b i).2 * 2) ^^^ 19)) : Value) = .int (nI ((fpS a b (i + 1)).2)) from congrArg _ (congrArg nI (show _ = (if 16 ≤ (fpS a b i).2 * 2 then _ else _) from by first | rw [if_pos (by omega)] | rw [if_neg (by omega)]))] at hl
            rw [show (.int (nI ((fpS a b i).1)) : Value) = .int (nI ((fpS a b (i + 1)).1)) from congrArg _ (congrArg nI (show _ = (if b / 2 ^ i % 2 = 1 then _ else _) from by first | rw [if_pos (by omega)] | rw [if_neg (by omega)]))] at hl
            exact ih7 (i + 1) (by omega) (by omega) ls (lv_sub hl [0, 1, 2, 3, 4] rfl)
        · refine lv_iload_n hx hb dX5_fieldProduct_23 rfl (lv_at hl 2 rfl) ?_
          refine lv_iload_n hx hb dX5_fieldProduct_24 rfl (lv_at hl 1 rfl) ?_
          refine zv_ixor hx hb (v := (nI (((fpS a b i).1) ^^^ ((fpS a b i).2)))) dX5_fieldProduct_25 (nx_xor _ _) ?_
          refine lv_istore_n (lv' := [(2, .int (nI (((fpS a b i).1) ^^^ ((fpS a b i).2)))), (4, .int (nI i)), (3, .int (nI ((fpS a b i).2))), (0, .int (nI a)), (1, .int (nI b))]) hx hb dX5_fieldProduct_26 rfl hl (by decide) rfl (fun ls hl => ?_)
          refine lv_iload_n hx hb dX5_fieldProduct_27 rfl (lv_at hl 2 rfl) ?_
          refine lv_iconst (v := (nI 1)) hx hb dX5_fieldProduct_28 (by decide) ?_
          refine zv_ishl hx hb (v := (nI ((fpS a b i).2 * 2))) dX5_fieldProduct_29 (zShl (s := 1) (by decide) (by omega)) ?_
          refine lv_istore_n (lv' := [(3, .int (nI ((fpS a b i).2 * 2))), (2, .int (nI (((fpS a b i).1) ^^^ ((fpS a b i).2)))), (4, .int (nI i)), (0, .int (nI a)), (1, .int (nI b))]) hx hb dX5_fieldProduct_30 rfl hl (by decide) rfl (fun ls hl => ?_)
          refine lv_iload_n hx hb dX5_fieldProduct_31 rfl (lv_at hl 0 rfl) ?_
          refine lv_bipush (v := (nI 16)) hx hb dX5_fieldProduct_32 (by decide) ?_
          refine zn_icmp_lt (tgt := 42)  hx hb dX5_fieldProduct_34 (by decide) (by omega) (by omega) (fun c34 => ?_) (fun c34 => ?_)
          · refine lv_iinc (v := (nI (i + 1))) (lv' := [(4, .int (nI (i + 1))), (3, .int (nI ((fpS a b i).2 * 2))), (2, .int (nI (((fpS a b i).1) ^^^ ((fpS a b i).2)))), (0, .int (nI a)), (1, .int (nI b))]) hx hb dX5_fieldProduct_42 hl (k := 2) rfl (zinc _) (by decide) rfl (fun ls hl => ?_)
            refine lv_goto (tgt := 7) hx hb dX5_fieldProduct_45 (by decide) ?_
            rw [show (.int (nI ((fpS a b i).2 * 2)) : Value) = .int (nI ((fpS a b (i + 1)).2)) from congrArg _ (congrArg nI (show _ = (if 16 ≤ (fpS a b i).2 * 2 then _ else _) from by first | rw [if_pos (by omega)] | rw [if_neg (by omega)]))] at hl
            rw [show (.int (nI (((fpS a b i).1) ^^^ ((fpS a b i).2))) : Value) = .int (nI ((fpS a b (i + 1)).1)) from congrArg _ (congrArg nI (show _ = (if b / 2 ^ i % 2 = 1 then _ else _) from by first | rw [if_pos (by omega)] | rw [if_neg (by omega)]))] at hl
            exact ih7 (i + 1) (by omega) (by omega) ls (lv_sub hl [0, 1, 2, 3, 4] rfl)
          · refine lv_iload_n hx hb dX5_fieldProduct_37 rfl (lv_at hl 0 rfl) ?_
            refine lv_bipush (v := (nI 19)) hx hb dX5_fieldProduct_38 (by decide) ?_
            refine zv_ixor hx hb (v := (nI (((fpS a b i).2 * 2) ^^^ 19))) dX5_fieldProduct_40 (nx_xor _ _) ?_
            refine lv_istore_n (lv' := [(3, .int (nI (((fpS a b i).2 * 2) ^^^ 19))), (2, .int (nI (((fpS a b i).1) ^^^ ((fpS a b i).2)))), (4, .int (nI i)), (0, .int (nI a)), (1, .int (nI b))]) hx hb dX5_fieldProduct_41 rfl hl (by decide) rfl (fun ls hl => ?_)
            refine lv_iinc (v := (nI (i + 1))) (lv' := [(4, .int (nI (i + 1))), (3, .int (nI (((fpS a b i).2 * 2) ^^^ 19))), (2, .int (nI (((fpS a b i).1) ^^^ ((fpS a b i).2)))), (0, .int (nI a)), (1, .int (nI b))]) hx hb dX5_fieldProduct_42 hl (k := 2) rfl (zinc _) (by decide) rfl (fun ls hl => ?_)
            refine lv_goto (tgt := 7) hx hb dX5_fieldProduct_45 (by decide) ?_
            rw [show (.int (nI (((fpS a b i).2 * 2) ^^^ 19)) : Value) = .int (nI ((fpS a b (i + 1)).2)) from congrArg _ (congrArg nI (show _ = (if 16 ≤ (fpS a b i).2 * 2 then _ else _) from by first | rw [if_pos (by omega)] | rw [if_neg (by omega)]))] at hl
            rw [show (.int (nI (((fpS a b i).1) ^^^ ((fpS a b i).2))) : Value) = .int (nI ((fpS a b (i + 1)).1)) from congrArg _ (congrArg nI (show _ = (if b / 2 ^ i % 2 = 1 then _ else _) from by first | rw [if_pos (by omega)] | rw [if_neg (by omega)]))] at hl
            exact ih7 (i + 1) (by omega) (by omega) ls (lv_sub hl [0, 1, 2, 3, 4] rfl)
  exact L7 (4 - 0 + 1) 0 (by omega) (Nat.lt_succ_self _) ls (lv_sub hl [0, 1, 2, 3, 4] rfl)
set_option maxHeartbeats 4000000 in
set_option maxRecDepth 100000 in
theorem c_X5_symbolIn (l : Launch) (D : va_G) (Y : Nat → ClassId)  (x : Nat) (j : Nat)  (hx9 : x < 18446744073709551616) (hj : j < 16) : Met l yX5_symbolIn wsX5_symbolIn ({ frames := 0, cells := 0, slots := 0, locals := 0 } : Room) (va_Pc [.long (lN (x)), .int (nI j)] (zB D Y ([]))) (zR (.int (nI (x / 2 ^ (4 * j) % 16)))) 0 0 (fun _ => False) := by
  refine zr_of (cc := cX5_symbolIn) (maxL := 3) (ret := (some .int)) (by decide) rfl (Nat.le_of_ble_eq_true rfl) ?_
  intro p e s m below meth c R args Q hR hx hb hml hr hlk hown hts hK hN hP hQ ls hl
  have hown : s.vm.findClass RX5 = some m.cls := hown
  have hl : lv_has ls 3 [(0, .long (lN (x))), (2, .int (nI j))] := hl
  refine lv_lload_n hx hb dX5_symbolIn_0 rfl (lv_at hl 0 rfl) ?_
  refine lv_iconst (v := (nI 4)) hx hb dX5_symbolIn_1 (by decide) ?_
  refine lv_iload_n hx hb dX5_symbolIn_2 rfl (lv_at hl 1 rfl) ?_
  refine zv_imul hx hb (v := (nI (4 * j))) dX5_symbolIn_3 (pk_mul _ _) ?_
  refine lv_lushr hx hb dX5_symbolIn_4 (v := (lN (x / 2 ^ (4 * j)))) (wb_shr hx9 (by omega)) ?_
  refine lv_l2i hx hb dX5_symbolIn_5 (v := (nI (x / 2 ^ (4 * j)))) (lN_i _) ?_
  refine lv_bipush (v := (nI 15)) hx hb dX5_symbolIn_6 (by decide) ?_
  refine zv_iand hx hb (v := (nI (x / 2 ^ (4 * j) % 16))) dX5_symbolIn_8 (zand15 _) ?_
  exact zr_i hx hb hr hlk hQ dX5_symbolIn_9 (rfl)
theorem qX1_bitsBetween_Cond_fieldLink_RX1_9_NestedCodes_InnerCode_words_I_ : Cond.fieldLink RX1 9 "NestedCodes$InnerCode" "words" "[I" ∈ wsX1_bitsBetween := by decide +kernel
theorem qX1_bitsBetween_inX1 : ∀ w ∈ wsX10, w ∈ wsX1_bitsBetween := by decide +kernel
set_option maxHeartbeats 4000000 in
set_option maxRecDepth 100000 in
theorem c_X1_bitsBetween (l : Launch) (D : va_G) (Y : Nat → ClassId) (A : Nat → Nat) (B : Nat → Nat) (σ : Nat → Nat) (hn : Nat) (h : Nat → Nat → Nat) (wd : Nat → Nat) (dd : Nat) (r0 : Nat → Nat) (r1 : Nat → Nat) (r2 : Nat → Nat) (r3 : Nat → Nat) (r4 : Nat → Nat) (rl : Nat) (rp : Nat) (rb : Nat) (wt : Nat → Nat) (wn : Nat) (w : Nat) (s0 : Nat)  (hw : w < 1024) (hs : s0 < 16) (kwd : ∀ j, j < 16 → wd j < 1024) : Met l yX1_bitsBetween wsX1_bitsBetween ({ frames := 1, cells := 0, slots := 0, locals := 20 } : Room) (va_Pc [.ref (A 7), .int (nI w), .int (nI s0)] (zB D Y (CX Y A B σ hn h wd dd r0 r1 r2 r3 r4 rl rp rb wt wn))) (zR (.int (nI (popc (w ^^^ wd s0))))) 0 0 (fun _ => False) := by
  refine zr_of (cc := cX1_bitsBetween) (maxL := 3) (ret := (some .int)) (by decide) rfl (Nat.le_of_ble_eq_true rfl) ?_
  intro p e s m below meth c R args Q hR hx hb hml hr hlk hown hts hK hN hP hQ ls hl
  have hown : s.vm.findClass RX1 = some m.cls := hown
  have hl : lv_has ls 3 [(0, .ref (A 7)), (1, .int (nI w)), (2, .int (nI s0))] := hl
  refine lv_iload_n hx hb dX1_bitsBetween_0 rfl (lv_at hl 1 rfl) ?_
  refine lv_aload_n hx hb dX1_bitsBetween_1 rfl (lv_at hl 0 rfl) ?_
  refine va_get (D := D) (ci := 1) (v := .ref (A 8)) (C := RX1) (T := TX1) (N := 2) hx hb hts qX1_bitsBetween_inX1 hown hK hP 7 rfl rfl 0 (by decide) (hts _ qX1_bitsBetween_Cond_fieldLink_RX1_9_NestedCodes_InnerCode_words_I_) (fun _ h9 => h9) rfl dX1_bitsBetween_2 ?_
  refine lv_iload_n hx hb dX1_bitsBetween_5 rfl (lv_at hl 2 rfl) ?_
  refine za_i hx hb hK hP 8 (f := fun k9 => nI (wd k9)) (v := (nI (wd s0))) rfl (by omega) (by decide) dX1_bitsBetween_6 (rfl) ?_
  refine zv_ixor hx hb (v := (nI (w ^^^ (wd s0)))) dX1_bitsBetween_7 (nx_xor _ _) ?_
  refine zc_r (va_runS (As := [.int (nI (w ^^^ (wd s0)))]) (rest := []) ⟨hx, hb, hml, hown, hts⟩ (c_J6_bitCount_0f7a4 l D Y  (w ^^^ (wd s0)) (Nat.lt_trans (xor_1024 hw (kwd _ hs)) (by decide))) (va_cwS 1 hts gX1_bitsBetween_J6_bitCount_0f7a4 rfl rfl rfl (by decide +kernel) (by rw [hR]; exact ⟨Nat.le_of_ble_eq_true rfl, Nat.le_of_ble_eq_true rfl⟩)) ⟨zB_blind, (zp_r (v := [.int (nI (w ^^^ (wd s0)))]) (fun k q h => absurd h (by simp)) hK hN)⟩ rfl rfl hl.1 rfl (lv_room (Nat.le_of_ble_eq_true rfl)) dX1_bitsBetween_8 ⟨Nat.zero_le _, Nat.zero_le _⟩).run ?_
  have hp8 := popc_le (w ^^^ (wd s0))
  exact zr_i hx hb hr hlk hQ dX1_bitsBetween_11 (rfl)
set_option maxHeartbeats 4000000 in
set_option maxRecDepth 100000 in
theorem c_X1_symbolOf (l : Launch) (D : va_G) (Y : Nat → ClassId) (A : Nat → Nat) (B : Nat → Nat) (σ : Nat → Nat) (hn : Nat) (h : Nat → Nat → Nat) (wd : Nat → Nat) (dd : Nat) (r0 : Nat → Nat) (r1 : Nat → Nat) (r2 : Nat → Nat) (r3 : Nat → Nat) (r4 : Nat → Nat) (rl : Nat) (rp : Nat) (rb : Nat) (wt : Nat → Nat) (wn : Nat) (w : Nat)  (hw : w < 1024) (kwd : ∀ j, j < 16 → wd j < 1024) : Met l yX1_symbolOf wsX1_symbolOf ({ frames := 2, cells := 0, slots := 0, locals := 42 } : Room) (va_Pc [.ref (A 7), .int (nI w)] (zB D Y (CX Y A B σ hn h wd dd r0 r1 r2 r3 r4 rl rp rb wt wn))) (zR (.int (nI (sym wd w 15)))) 0 0 (fun _ => False) := by
  refine zr_of (cc := cX1_symbolOf) (maxL := 4) (ret := (some .int)) (by decide) rfl (Nat.le_of_ble_eq_true rfl) ?_
  intro p e s m below meth c R args Q hR hx hb hml hr hlk hown hts hK hN hP hQ ls hl
  have hown : s.vm.findClass RX1 = some m.cls := hown
  have hl : lv_has ls 4 [(0, .ref (A 7)), (1, .int (nI w))] := hl
  refine lv_iconst (v := (nI 0)) hx hb dX1_symbolOf_0 (by decide) ?_
  refine lv_istore_n (lv' := [(2, .int (nI 0)), (0, .ref (A 7)), (1, .int (nI w))]) hx hb dX1_symbolOf_1 rfl hl (by decide) rfl (fun ls hl => ?_)
  refine lv_iconst (v := (nI 1)) hx hb dX1_symbolOf_2 (by decide) ?_
  refine lv_istore_n (lv' := [(3, .int (nI 1)), (2, .int (nI 0)), (0, .ref (A 7)), (1, .int (nI w))]) hx hb dX1_symbolOf_3 rfl hl (by decide) rfl (fun ls hl => ?_)
  have L4 : ∀ (n9 : Nat) (t : Nat) (hi : t ≤ 15), 15 - t < n9 → ∀ ls : Array Slot, lv_has ls 4 [(3, .int (nI (t + 1))), (2, .int (nI (sym wd w t))), (0, .ref (A 7)), (1, .int (nI w))] → W p l e R s m args below meth c s.heap [] 0 0 Q (F0 m 4 ls []) := by
    intro n9
    induction n9 with
    | zero => intro t hi hn9; exact absurd hn9 (Nat.not_lt_zero _)
    | succ n9 ih9 =>
      have ih4 := ih9
      clear ih9
      intro t hi hn9 ls hl
      have hsy := sym_le wd w t
      refine lv_iload_n hx hb dX1_symbolOf_4 rfl (lv_at hl 0 rfl) ?_
      refine lv_bipush (v := (nI 16)) hx hb dX1_symbolOf_5 (by decide) ?_
      refine zn_icmp_ge (tgt := 33)  hx hb dX1_symbolOf_7 (by decide) (by omega) (by omega) (fun c7 => ?_) (fun c7 => ?_)
      · obtain rfl : t = 15 := by omega
        refine lv_iload_n hx hb dX1_symbolOf_33 rfl (lv_at hl 1 rfl) ?_
        exact zr_i hx hb hr hlk hQ dX1_symbolOf_34 (rfl)
      · refine lv_aload_n hx hb dX1_symbolOf_10 rfl (lv_at hl 2 rfl) ?_
        refine lv_iload_n hx hb dX1_symbolOf_11 rfl (lv_at hl 3 rfl) ?_
        refine lv_iload_n hx hb dX1_symbolOf_12 rfl (lv_at hl 0 rfl) ?_
        refine zc_r (va_runV (As := [.int (nI w), .int (nI (t + 1))]) (rest := []) ⟨hx, hb, hml, hown, hts⟩ (c_X1_bitsBetween l D Y A B σ hn h wd dd r0 r1 r2 r3 r4 rl rp rb wt wn w (t + 1) (by omega) (by omega) kwd) (cwV 2 hts gX1_symbolOf_X1_bitsBetween rfl rfl rfl (by decide +kernel) (by rw [hR]; exact ⟨Nat.le_of_ble_eq_true rfl, Nat.le_of_ble_eq_true rfl⟩)) ⟨zB_blind, va_recv hK hP (ci := 1) (q0 := 7) rfl rfl, zp_r hP hK hN⟩ rfl rfl hl.1 rfl (lv_room (Nat.le_of_ble_eq_true rfl)) dX1_symbolOf_13 ⟨Nat.zero_le _, Nat.zero_le _⟩).run ?_
        have hp13 := popc_le (w ^^^ wd (t + 1))
        refine lv_aload_n hx hb dX1_symbolOf_16 rfl (lv_at hl 2 rfl) ?_
        refine lv_iload_n hx hb dX1_symbolOf_17 rfl (lv_at hl 3 rfl) ?_
        refine lv_iload_n hx hb dX1_symbolOf_18 rfl (lv_at hl 1 rfl) ?_
        refine zc_r (va_runV (As := [.int (nI w), .int (nI (sym wd w t))]) (rest := [.int (nI (popc (w ^^^ wd (t + 1))))]) ⟨hx, hb, hml, hown, hts⟩ (c_X1_bitsBetween l D Y A B σ hn h wd dd r0 r1 r2 r3 r4 rl rp rb wt wn w (sym wd w t) (by omega) (by omega) kwd) (cwV 2 hts gX1_symbolOf_X1_bitsBetween rfl rfl rfl (by decide +kernel) (by rw [hR]; exact ⟨Nat.le_of_ble_eq_true rfl, Nat.le_of_ble_eq_true rfl⟩)) ⟨zB_blind, va_recv hK hP (ci := 1) (q0 := 7) rfl rfl, zp_r hP hK hN⟩ rfl rfl hl.1 rfl (lv_room (Nat.le_of_ble_eq_true rfl)) dX1_symbolOf_19 ⟨Nat.zero_le _, Nat.zero_le _⟩).run ?_
        have hp19 := popc_le (w ^^^ wd (sym wd w t))
        refine zn_icmp_ge (tgt := 27)  hx hb dX1_symbolOf_22 (by decide) (by omega) (by omega) (fun c22 => ?_) (fun c22 => ?_)
        · refine lv_iinc (v := (nI (t + 1 + 1))) (lv' := [(3, .int (nI (t + 1 + 1))), (2, .int (nI (sym wd w t))), (0, .ref (A 7)), (1, .int (nI w))]) hx hb dX1_symbolOf_27 hl (k := 0) rfl (zinc _) (by decide) rfl (fun ls hl => ?_)
          refine lv_goto (tgt := 4) hx hb dX1_symbolOf_30 (by decide) ?_
          rw [show (.int (nI (sym wd w t)) : Value) = .int (nI (sym wd w (t + 1))) from congrArg _ (congrArg nI (show _ = (if popc (w ^^^ wd (t + 1)) < popc (w ^^^ wd (sym wd w t)) then t + 1 else sym wd w t) from by first | rw [if_pos (by omega)] | rw [if_neg (by omega)]))] at hl
          exact ih4 (t + 1) (by omega) (by omega) ls (lv_sub hl [0, 1, 2, 3] rfl)
        · refine lv_iload_n hx hb dX1_symbolOf_25 rfl (lv_at hl 0 rfl) ?_
          refine lv_istore_n (lv' := [(2, .int (nI (t + 1))), (3, .int (nI (t + 1))), (0, .ref (A 7)), (1, .int (nI w))]) hx hb dX1_symbolOf_26 rfl hl (by decide) rfl (fun ls hl => ?_)
          refine lv_iinc (v := (nI (t + 1 + 1))) (lv' := [(3, .int (nI (t + 1 + 1))), (2, .int (nI (t + 1))), (0, .ref (A 7)), (1, .int (nI w))]) hx hb dX1_symbolOf_27 hl (k := 1) rfl (zinc _) (by decide) rfl (fun ls hl => ?_)
          refine lv_goto (tgt := 4) hx hb dX1_symbolOf_30 (by decide) ?_
          rw [show (.int (nI (t + 1)) : Value) = .int (nI (sym wd w (t + 1))) from congrArg _ (congrArg nI (show _ = (if popc (w ^^^ wd (t + 1)) < popc (w ^^^ wd (sym wd w t)) then t + 1 else sym wd w t) from by first | rw [if_pos (by omega)] | rw [if_neg (by omega)]))] at hl
          exact ih4 (t + 1) (by omega) (by omega) ls (lv_sub hl [0, 1, 2, 3] rfl)
  exact L4 (15 - 0 + 1) 0 (by omega) (Nat.lt_succ_self _) ls (lv_sub hl [0, 1, 2, 3] rfl)
theorem qX1_reliability_Cond_fieldLink_RX1_15_NestedCodes_InnerCode_distance_I_ : Cond.fieldLink RX1 15 "NestedCodes$InnerCode" "distance" "I" ∈ wsX1_reliability := by decide +kernel
theorem qX1_reliability_inX1 : ∀ w ∈ wsX10, w ∈ wsX1_reliability := by decide +kernel
theorem qX1_reliability_Cond_methodLink_RX1_38_Lib_Math_max_name : Cond.methodLink RX1 38 Lib.Math.max.name ∈ wsX1_reliability := by decide +kernel
theorem qX1_reliability_Cond_static_Lib_Math_max_name : Cond.static Lib.Math.max.name ∈ wsX1_reliability := by decide +kernel
theorem qX1_reliability_Cond_initialized_java_lang_Math_ : Cond.initialized "java/lang/Math" ∈ wsX1_reliability := by decide +kernel
theorem qX1_reliability_Cond_code_Lib_Math_max_name_Lib_Math_max_code_2_some_int_ : Cond.code Lib.Math.max.name Lib.Math.max.code 2 (some .int) ∈ wsX1_reliability := by decide +kernel
set_option maxHeartbeats 4000000 in
set_option maxRecDepth 100000 in
theorem c_X1_reliability (l : Launch) (D : va_G) (Y : Nat → ClassId) (A : Nat → Nat) (B : Nat → Nat) (σ : Nat → Nat) (hn : Nat) (h : Nat → Nat → Nat) (wd : Nat → Nat) (dd : Nat) (r0 : Nat → Nat) (r1 : Nat → Nat) (r2 : Nat → Nat) (r3 : Nat → Nat) (r4 : Nat → Nat) (rl : Nat) (rp : Nat) (rb : Nat) (wt : Nat → Nat) (wn : Nat) (g : Nat)  (hg : g ≤ 12) (kdd : dd ≤ 12) : Met l yX1_reliability wsX1_reliability ({ frames := 1, cells := 0, slots := 0, locals := 21 } : Room) (va_Pc [.ref (A 7), .int (nI g)] (zB D Y (CX Y A B σ hn h wd dd r0 r1 r2 r3 r4 rl rp rb wt wn))) (zR (.int (nI (dd - 2 * g)))) 0 0 (fun _ => False) := by
  refine zr_of (cc := cX1_reliability) (maxL := 2) (ret := (some .int)) (by decide) rfl (Nat.le_of_ble_eq_true rfl) ?_
  intro p e s m below meth c R args Q hR hx hb hml hr hlk hown hts hK hN hP hQ ls hl
  have hown : s.vm.findClass RX1 = some m.cls := hown
  have hl : lv_has ls 2 [(0, .ref (A 7)), (1, .int (nI g))] := hl
  refine lv_aload_n hx hb dX1_reliability_0 rfl (lv_at hl 0 rfl) ?_
  refine va_get (D := D) (ci := 1) (v := .int (nI dd)) (C := RX1) (T := TX1) (N := 2) hx hb hts qX1_reliability_inX1 hown hK hP 7 rfl rfl 1 (by decide) (hts _ qX1_reliability_Cond_fieldLink_RX1_15_NestedCodes_InnerCode_distance_I_) (fun _ h9 => h9) rfl dX1_reliability_1 ?_
  refine lv_iconst (v := (nI 2)) hx hb dX1_reliability_4 (by decide) ?_
  refine lv_iload_n hx hb dX1_reliability_5 rfl (lv_at hl 1 rfl) ?_
  refine zv_imul hx hb (v := (nI (2 * g))) dX1_reliability_6 (pk_mul _ _) ?_
  refine zv_isub hx hb (v := (nI dd - nI (2 * g))) dX1_reliability_7 (rfl) ?_
  refine lv_iconst (v := (nI 0)) hx hb dX1_reliability_8 (by decide) ?_
  refine va_mmax hx hb (hml.trans hl.1.symm) hown (hts _ qX1_reliability_Cond_methodLink_RX1_38_Lib_Math_max_name) (hts _ qX1_reliability_Cond_static_Lib_Math_max_name) (hts _ qX1_reliability_Cond_initialized_java_lang_Math_) (hts _ qX1_reliability_Cond_code_Lib_Math_max_name_Lib_Math_max_code_2_some_int_) (by rw [hR]; exact Nat.le_of_ble_eq_true rfl) (by rw [hR]; exact Nat.le_of_ble_eq_true rfl) (Nat.zero_le _) (Nat.zero_le _) dX1_reliability_9 ?_
  refine zt_i (v := (nI (dd - 2 * g))) (zmax0 (by omega) (by omega)) ?_
  exact zr_i hx hb hr hlk hQ dX1_reliability_12 (rfl)

theorem qX1_setGenerators_Cond_fieldLink_RX1_15_NestedCodes_InnerCode_distance_I_ : Cond.fieldLink RX1 15 "NestedCodes$InnerCode" "distance" "I" ∈ wsX1_setGenerators := by decide +kernel
theorem qX1_setGenerators_inX1 : ∀ w ∈ wsX10, w ∈ wsX1_setGenerators := by decide +kernel
theorem qX1_setGenerators_Cond_fieldLink_RX1_9_NestedCodes_InnerCode_words_I_ : Cond.fieldLink RX1 9 "NestedCodes$InnerCode" "words" "[I" ∈ wsX1_setGenerators := by decide +kernel
theorem qX1_setGenerators_Cond_initialized_RX5 : Cond.initialized RX5 ∈ wsX1_setGenerators := by decide +kernel
theorem qX1_setGenerators_Cond_static_yX5_generatedWord : Cond.static yX5_generatedWord ∈ wsX1_setGenerators := by decide +kernel
theorem qX1_setGenerators_Cond_methodLink_RX1_29_Lib_Math_min_name : Cond.methodLink RX1 29 Lib.Math.min.name ∈ wsX1_setGenerators := by decide +kernel
theorem qX1_setGenerators_Cond_static_Lib_Math_min_name : Cond.static Lib.Math.min.name ∈ wsX1_setGenerators := by decide +kernel
theorem qX1_setGenerators_Cond_initialized_java_lang_Math_ : Cond.initialized "java/lang/Math" ∈ wsX1_setGenerators := by decide +kernel
theorem qX1_setGenerators_Cond_code_Lib_Math_min_name_Lib_Math_min_code_2_some_int_ : Cond.code Lib.Math.min.name Lib.Math.min.code 2 (some .int) ∈ wsX1_setGenerators := by decide +kernel
set_option maxHeartbeats 4000000 in
set_option maxRecDepth 100000 in
theorem c_X1_setGenerators (l : Launch) (D : va_G) (Y : Nat → ClassId) (A : Nat → Nat) (B : Nat → Nat) (σ : Nat → Nat) (hn : Nat) (h : Nat → Nat → Nat) (wd : Nat → Nat) (dd : Nat) (r0 : Nat → Nat) (r1 : Nat → Nat) (r2 : Nat → Nat) (r3 : Nat → Nat) (r4 : Nat → Nat) (rl : Nat) (rp : Nat) (rb : Nat) (wt : Nat → Nat) (wn : Nat)   (kg : ∀ j, j < 4 → zg σ j < 1024) : Met l yX1_setGenerators wsX1_setGenerators ({ frames := 1, cells := 0, slots := 0, locals := 23 } : Room) (va_Pc [.ref (A 7), .ref (A 2)] (zBw D Y (CX Y A B σ hn h wd dd r0 r1 r2 r3 r4 rl rp rb wt wn))) (zW none D (CX Y A B σ hn h (wdS σ) (ddS σ) r0 r1 r2 r3 r4 rl rp rb wt wn) (zA (CX Y A B σ hn h wd dd r0 r1 r2 r3 r4 rl rp rb wt wn))) 0 0 (zA (CX Y A B σ hn h wd dd r0 r1 r2 r3 r4 rl rp rb wt wn)) := by
  refine zw_of (cc := cX1_setGenerators) (maxL := 3) (ret := none) (by decide) rfl (Nat.le_of_ble_eq_true rfl) ?_
  intro p e s m below meth c R args Q FA hR hx hb hml hr hlk hown hts hK hN hQ hP hD hS ls hl
  have hown : s.vm.findClass RX1 = some m.cls := hown
  have hl : lv_has ls 3 [(0, .ref (A 7)), (1, .ref (A 2))] := hl
  have hS := hS
  have kwd9 : ∀ s, wdS σ s < 1024 := fun s => gw_1024 kg
  suffices hgo : ∀ (H : Heap) (locs : List Loc), va_P D vwCl (CX Y A B σ hn h wd dd r0 r1 r2 r3 r4 rl rp rb wt wn) H → va_S FA s.heap H locs → W p l e R s m args below meth c H locs 0 0 Q (F0 m 0 ls []) from hgo _ _ hP hS
  clear hP hS
  intro H locs hP hS
  refine lv_aload_n hx hb dX1_setGenerators_0 rfl (lv_at hl 0 rfl) ?_
  refine lv_bipush (v := (nI 10)) hx hb dX1_setGenerators_1 (by decide) ?_
  refine va_put (D := D) (ci := 1) (v := .int (nI 10)) (ty := .int) (C := RX1) (T := TX1) (N := 2) hx hb hts qX1_setGenerators_inX1 tyX1 tyX1_ok nmX1 hown hK hP hD hS 7 rfl rfl 1 (by decide) (hts _ qX1_setGenerators_Cond_fieldLink_RX1_15_NestedCodes_InnerCode_distance_I_) (fun _ h9 => h9) rfl (by decide +kernel) rfl rfl (Nat.le_of_ble_eq_true rfl) dX1_setGenerators_3 (fun H locs hP hD9 hS => ?_)
  rw [CX_f_dd] at hP
  have hP : va_P D vwCl (CX Y A B σ hn h wd 10 r0 r1 r2 r3 r4 rl rp rb wt wn) H := hP
  have hD : va_D FA (CX Y A B σ hn h wd 10 r0 r1 r2 r3 r4 rl rp rb wt wn) := CX_dd hD
  clear hD9
  refine lv_aload_n hx hb dX1_setGenerators_6 rfl (lv_at hl 0 rfl) ?_
  refine va_get (D := D) (ci := 1) (v := .ref (A 8)) (C := RX1) (T := TX1) (N := 2) hx hb hts qX1_setGenerators_inX1 hown hK hP 7 rfl rfl 0 (by decide) (hts _ qX1_setGenerators_Cond_fieldLink_RX1_9_NestedCodes_InnerCode_words_I_) (fun _ h9 => h9) rfl dX1_setGenerators_7 ?_
  refine lv_iconst (v := (nI 0)) hx hb dX1_setGenerators_10 (by decide) ?_
  refine lv_iconst (v := (nI 0)) hx hb dX1_setGenerators_11 (by decide) ?_
  refine zs_i hx hb hK hP hD hS 8 (f := fun k9 => nI (wd k9)) rfl (by omega) (by decide) dX1_setGenerators_12 (fun H locs hP hD9 hS => ?_)
  rw [zupd] at hP
  rw [CX_s8] at hP
  have hP : va_P D vwCl (CX Y A B σ hn h (va_up wd 0 0) 10 r0 r1 r2 r3 r4 rl rp rb wt wn) H := hP
  have hD : va_D FA (CX Y A B σ hn h (va_up wd 0 0) 10 r0 r1 r2 r3 r4 rl rp rb wt wn) := CX_dd hD
  clear hD9
  refine lv_iconst (v := (nI 1)) hx hb dX1_setGenerators_13 (by decide) ?_
  refine lv_istore_n (lv' := [(2, .int (nI 1)), (0, .ref (A 7)), (1, .ref (A 2))]) hx hb dX1_setGenerators_14 rfl hl (by decide) rfl (fun ls hl => ?_)
  have L15 : ∀ (n9 : Nat) (t : Nat) (hi : t ≤ 15), 15 - t < n9 → ∀ (H : Heap) (locs : List Loc), va_P D vwCl (CX Y A B σ hn h (zmx (t + 1) (wdS σ) wd) (dmin (wdS σ) 10 (t + 1)) r0 r1 r2 r3 r4 rl rp rb wt wn) H → va_D FA (CX Y A B σ hn h (zmx (t + 1) (wdS σ) wd) (dmin (wdS σ) 10 (t + 1)) r0 r1 r2 r3 r4 rl rp rb wt wn) → va_S FA s.heap H locs → ∀ ls : Array Slot, lv_has ls 3 [(2, .int (nI (t + 1))), (0, .ref (A 7)), (1, .ref (A 2))] → W p l e R s m args below meth c H locs 0 0 Q (F0 m 15 ls []) := by
    intro n9
    induction n9 with
    | zero => intro t hi hn9; exact absurd hn9 (Nat.not_lt_zero _)
    | succ n9 ih9 =>
      have ih15 := ih9
      clear ih9
      intro t hi hn9 H locs hP hD hS ls hl
      have hdm := dmin_le (wdS σ) 10 (t + 1)
      refine lv_iload_n hx hb dX1_setGenerators_15 rfl (lv_at hl 0 rfl) ?_
      refine lv_bipush (v := (nI 16)) hx hb dX1_setGenerators_16 (by decide) ?_
      refine zn_icmp_ge (tgt := 58)  hx hb dX1_setGenerators_18 (by decide) (by omega) (by omega) (fun c18 => ?_) (fun c18 => ?_)
      · obtain rfl : t = 15 := by omega
        have hP := zP_arrI 8 (fun j => nI (wdS σ j)) hP rfl (fun j hj => congrArg nI (zmx_in _ _ (by omega)))
        exact zw_v hx hb hr hlk hQ hS dX1_setGenerators_58 (hP)
      · refine lv_aload_n hx hb dX1_setGenerators_21 rfl (lv_at hl 1 rfl) ?_
        refine va_get (D := D) (ci := 1) (v := .ref (A 8)) (C := RX1) (T := TX1) (N := 2) hx hb hts qX1_setGenerators_inX1 hown hK hP 7 rfl rfl 0 (by decide) (hts _ qX1_setGenerators_Cond_fieldLink_RX1_9_NestedCodes_InnerCode_words_I_) (fun _ h9 => h9) rfl dX1_setGenerators_22 ?_
        refine lv_iload_n hx hb dX1_setGenerators_25 rfl (lv_at hl 0 rfl) ?_
        refine lv_aload_n hx hb dX1_setGenerators_26 rfl (lv_at hl 2 rfl) ?_
        refine lv_iload_n hx hb dX1_setGenerators_27 rfl (lv_at hl 0 rfl) ?_
        refine zc_r (va_runSN (As := [.ref (A 2), .int (nI (t + 1))]) (rest := [.int (nI (t + 1)), .ref (A 8)]) ⟨hx, hb, hml, hown, hts⟩ (c_X5_generatedWord l D Y (A 2) (zg σ) (t + 1) (by omega)) ⟨(va_cnB 2 hts gX1_setGenerators_X5_generatedWord_n19 rfl rfl rfl (kM_X1_19 hN) (hts _ qX1_setGenerators_Cond_initialized_RX5) (by decide +kernel) (by rw [hR]; exact ⟨Nat.le_of_ble_eq_true rfl, Nat.le_of_ble_eq_true rfl⟩)), (hts _ qX1_setGenerators_Cond_static_yX5_generatedWord), trivial⟩ ⟨zB_blind, (zp_r (wc := AX Y (A 2) (zg σ)) (hP.sub (ws' := AX Y (A 2) (zg σ)) [2] rfl) hK hN)⟩ rfl rfl hl.1 rfl (lv_room (Nat.le_of_ble_eq_true rfl)) dX1_setGenerators_28 ⟨Nat.zero_le _, Nat.zero_le _⟩).run ?_
        refine zs_i hx hb hK hP hD hS 8 (f := fun k9 => nI ((zmx (t + 1) (wdS σ) wd) k9)) rfl (by omega) (by decide) dX1_setGenerators_31 (fun H locs hP hD9 hS => ?_)
        rw [zupd] at hP
        rw [CX_s8] at hP
        have hP : va_P D vwCl (CX Y A B σ hn h (va_up (zmx (t + 1) (wdS σ) wd) (t + 1) (gw (zg σ) (t + 1) 4)) (dmin (wdS σ) 10 (t + 1)) r0 r1 r2 r3 r4 rl rp rb wt wn) H := hP
        have hD : va_D FA (CX Y A B σ hn h (va_up (zmx (t + 1) (wdS σ) wd) (t + 1) (gw (zg σ) (t + 1) 4)) (dmin (wdS σ) 10 (t + 1)) r0 r1 r2 r3 r4 rl rp rb wt wn) := CX_dd hD
        clear hD9
        refine lv_aload_n hx hb dX1_setGenerators_32 rfl (lv_at hl 1 rfl) ?_
        refine lv_aload_n hx hb dX1_setGenerators_33 rfl (lv_at hl 1 rfl) ?_
        refine va_get (D := D) (ci := 1) (v := .int (nI (dmin (wdS σ) 10 (t + 1)))) (C := RX1) (T := TX1) (N := 2) hx hb hts qX1_setGenerators_inX1 hown hK hP 7 rfl rfl 1 (by decide) (hts _ qX1_setGenerators_Cond_fieldLink_RX1_15_NestedCodes_InnerCode_distance_I_) (fun _ h9 => h9) rfl dX1_setGenerators_34 ?_
        refine lv_aload_n hx hb dX1_setGenerators_37 rfl (lv_at hl 1 rfl) ?_
        refine va_get (D := D) (ci := 1) (v := .ref (A 8)) (C := RX1) (T := TX1) (N := 2) hx hb hts qX1_setGenerators_inX1 hown hK hP 7 rfl rfl 0 (by decide) (hts _ qX1_setGenerators_Cond_fieldLink_RX1_9_NestedCodes_InnerCode_words_I_) (fun _ h9 => h9) rfl dX1_setGenerators_38 ?_
        refine lv_iload_n hx hb dX1_setGenerators_41 rfl (lv_at hl 0 rfl) ?_
        refine za_i hx hb hK hP 8 (f := fun k9 => nI ((va_up (zmx (t + 1) (wdS σ) wd) (t + 1) (gw (zg σ) (t + 1) 4)) k9)) (v := (nI (wdS σ (t + 1)))) rfl (by omega) (by decide) dX1_setGenerators_42 (by rw [zu_eq]; rfl) ?_
        refine zc_r (va_runS (As := [.int (nI (wdS σ (t + 1)))]) (rest := [.int (nI (dmin (wdS σ) 10 (t + 1))), .ref (A 7)]) ⟨hx, hb, hml, hown, hts⟩ (c_J6_bitCount_0f7a4 l D Y  (wdS σ (t + 1)) (Nat.lt_trans (kwd9 _) (by decide))) (va_cwS 1 hts gX1_setGenerators_J6_bitCount_0f7a4 rfl rfl rfl (by decide +kernel) (by rw [hR]; exact ⟨Nat.le_of_ble_eq_true rfl, Nat.le_of_ble_eq_true rfl⟩)) ⟨zB_blind, (zp_r (v := [.int (nI (wdS σ (t + 1)))]) (fun k q h => absurd h (by simp)) hK hN)⟩ rfl rfl hl.1 rfl (lv_room (Nat.le_of_ble_eq_true rfl)) dX1_setGenerators_43 ⟨Nat.zero_le _, Nat.zero_le _⟩).run ?_
        have hp43 := popc_le (wdS σ (t + 1))
        refine va_mmin hx hb (hml.trans hl.1.symm) hown (hts _ qX1_setGenerators_Cond_methodLink_RX1_29_Lib_Math_min_name) (hts _ qX1_setGenerators_Cond_static_Lib_Math_min_name) (hts _ qX1_setGenerators_Cond_initialized_java_lang_Math_) (hts _ qX1_setGenerators_Cond_code_Lib_Math_min_name_Lib_Math_min_code_2_some_int_) (by rw [hR]; exact Nat.le_of_ble_eq_true rfl) (by rw [hR]; exact Nat.le_of_ble_eq_true rfl) (Nat.zero_le _) (Nat.zero_le _) dX1_setGenerators_46 ?_
        refine zt_i (v := (nI (min (dmin (wdS σ) 10 (t + 1)) (popc (wdS σ (t + 1)))))) (zmin (by omega) (by omega)) ?_
        refine va_put (D := D) (ci := 1) (v := .int (nI (min (dmin (wdS σ) 10 (t + 1)) (popc (wdS σ (t + 1)))))) (ty := .int) (C := RX1) (T := TX1) (N := 2) hx hb hts qX1_setGenerators_inX1 tyX1 tyX1_ok nmX1 hown hK hP hD hS 7 rfl rfl 1 (by decide) (hts _ qX1_setGenerators_Cond_fieldLink_RX1_15_NestedCodes_InnerCode_distance_I_) (fun _ h9 => h9) rfl (by decide +kernel) rfl rfl (Nat.le_of_ble_eq_true rfl) dX1_setGenerators_49 (fun H locs hP hD9 hS => ?_)
        rw [CX_f_dd] at hP
        have hP : va_P D vwCl (CX Y A B σ hn h (va_up (zmx (t + 1) (wdS σ) wd) (t + 1) (gw (zg σ) (t + 1) 4)) (min (dmin (wdS σ) 10 (t + 1)) (popc (wdS σ (t + 1)))) r0 r1 r2 r3 r4 rl rp rb wt wn) H := hP
        have hD : va_D FA (CX Y A B σ hn h (va_up (zmx (t + 1) (wdS σ) wd) (t + 1) (gw (zg σ) (t + 1) 4)) (min (dmin (wdS σ) 10 (t + 1)) (popc (wdS σ (t + 1)))) r0 r1 r2 r3 r4 rl rp rb wt wn) := CX_dd hD
        clear hD9
        refine lv_iinc (v := (nI (t + 1 + 1))) (lv' := [(2, .int (nI (t + 1 + 1))), (0, .ref (A 7)), (1, .ref (A 2))]) hx hb dX1_setGenerators_52 hl (k := 0) rfl (zinc _) (by decide) rfl (fun ls hl => ?_)
        refine lv_goto (tgt := 15) hx hb dX1_setGenerators_55 (by decide) ?_
        have e9 : (va_up (zmx (t + 1) (wdS σ) wd) (t + 1) (gw (zg σ) (t + 1) 4)) = (zmx ((t + 1) + 1) (wdS σ) wd) := zmx_up (t + 1) (wdS σ) wd
        rw [e9] at hP
        clear e9
        have e9 : (min (dmin (wdS σ) 10 (t + 1)) (popc (wdS σ (t + 1)))) = (dmin (wdS σ) 10 ((t + 1) + 1)) := (if_neg (by omega)).symm
        rw [e9] at hP
        clear e9
        have hP : va_P D vwCl (CX Y A B σ hn h (zmx ((t + 1) + 1) (wdS σ) wd) (dmin (wdS σ) 10 ((t + 1) + 1)) r0 r1 r2 r3 r4 rl rp rb wt wn) H := hP
        have hD : va_D FA (CX Y A B σ hn h (zmx ((t + 1) + 1) (wdS σ) wd) (dmin (wdS σ) 10 ((t + 1) + 1)) r0 r1 r2 r3 r4 rl rp rb wt wn) := CX_dd hD
        exact ih15 (t + 1) (by omega) (by omega) H locs hP hD hS ls (lv_sub hl [0, 1, 2] rfl)
  have e9 : (va_up wd 0 0) = (zmx (0 + 1) (wdS σ) wd) := by rw [← zmx_up 0 (wdS σ) wd, zmx_0, wdS_0]
  rw [e9] at hP
  clear e9
  have hP : va_P D vwCl (CX Y A B σ hn h (zmx (0 + 1) (wdS σ) wd) (dmin (wdS σ) 10 (0 + 1)) r0 r1 r2 r3 r4 rl rp rb wt wn) H := hP
  have hD : va_D FA (CX Y A B σ hn h (zmx (0 + 1) (wdS σ) wd) (dmin (wdS σ) 10 (0 + 1)) r0 r1 r2 r3 r4 rl rp rb wt wn) := CX_dd hD
  exact L15 (15 - 0 + 1) 0 (by omega) (Nat.lt_succ_self _) _ _ hP hD hS ls (lv_sub hl [0, 1, 2] rfl)
theorem qX2_codeword_Cond_fieldLink_RX2_9_NestedCodes_OuterCode_parts_J_ : Cond.fieldLink RX2 9 "NestedCodes$OuterCode" "parts" "[J" ∈ wsX2_codeword := by decide +kernel
theorem qX2_codeword_inX2 : ∀ w ∈ wsX20, w ∈ wsX2_codeword := by decide +kernel
set_option maxHeartbeats 4000000 in
set_option maxRecDepth 100000 in
theorem c_X2_codeword (l : Launch) (D : va_G) (Y : Nat → ClassId) (A : Nat → Nat) (B : Nat → Nat) (σ : Nat → Nat) (hn : Nat) (h : Nat → Nat → Nat) (wd : Nat → Nat) (dd : Nat) (r0 : Nat → Nat) (r1 : Nat → Nat) (r2 : Nat → Nat) (r3 : Nat → Nat) (r4 : Nat → Nat) (rl : Nat) (rp : Nat) (rb : Nat) (wt : Nat → Nat) (wn : Nat) (m9 : Nat)  (hm : m9 < 4096) : Met l yX2_codeword wsX2_codeword ({ frames := 0, cells := 0, slots := 0, locals := 0 } : Room) (va_Pc [.ref (A 9), .int (nI m9)] (zB D Y (CX Y A B σ hn h wd dd r0 r1 r2 r3 r4 rl rp rb wt wn))) (zR (.long (lN (zcwP m9)))) 0 0 (fun _ => False) := by
  refine zr_of (cc := cX2_codeword) (maxL := 3) (ret := (some .long)) (by decide) rfl (Nat.le_of_ble_eq_true rfl) ?_
  intro p e s m below meth c R args Q hR hx hb hml hr hlk hown hts hK hN hP hQ ls hl
  have hown : s.vm.findClass RX2 = some m.cls := hown
  have hl : lv_has ls 3 [(0, .ref (A 9)), (1, .int (nI m9))] := hl
  refine lv_bipush (v := (nI 15)) hx hb dX2_codeword_0 (by decide) ?_
  refine lv_istore_n (lv' := [(2, .int (nI 15)), (0, .ref (A 9)), (1, .int (nI m9))]) hx hb dX2_codeword_2 rfl hl (by decide) rfl (fun ls hl => ?_)
  refine lv_aload_n hx hb dX2_codeword_3 rfl (lv_at hl 1 rfl) ?_
  refine va_get (D := D) (ci := 2) (v := .ref (A 10)) (C := RX2) (T := TX2) (N := 1) hx hb hts qX2_codeword_inX2 hown hK hP 9 rfl rfl 0 (by decide) (hts _ qX2_codeword_Cond_fieldLink_RX2_9_NestedCodes_OuterCode_parts_J_) (fun _ h9 => h9) rfl dX2_codeword_4 ?_
  refine lv_iload_n hx hb dX2_codeword_7 rfl (lv_at hl 2 rfl) ?_
  refine lv_iload_n hx hb dX2_codeword_8 rfl (lv_at hl 0 rfl) ?_
  refine zv_iand hx hb (v := (nI (m9 % 16))) dX2_codeword_9 (zand15 _) ?_
  refine za_l hx hb hK hP 10 (f := fun k9 => lN (zParts k9)) (v := (lN (zParts (m9 % 16)))) rfl (by omega) (by decide) dX2_codeword_10 (rfl) ?_
  refine lv_aload_n hx hb dX2_codeword_11 rfl (lv_at hl 1 rfl) ?_
  refine va_get (D := D) (ci := 2) (v := .ref (A 10)) (C := RX2) (T := TX2) (N := 1) hx hb hts qX2_codeword_inX2 hown hK hP 9 rfl rfl 0 (by decide) (hts _ qX2_codeword_Cond_fieldLink_RX2_9_NestedCodes_OuterCode_parts_J_) (fun _ h9 => h9) rfl dX2_codeword_12 ?_
  refine lv_bipush (v := (nI 16)) hx hb dX2_codeword_15 (by decide) ?_
  refine lv_iload_n hx hb dX2_codeword_17 rfl (lv_at hl 2 rfl) ?_
  refine lv_iconst (v := (nI 4)) hx hb dX2_codeword_18 (by decide) ?_
  refine zv_ishr hx hb (v := (nI (m9 / 2 ^ 4))) dX2_codeword_19 (zShr (by omega) (by omega)) ?_
  refine lv_iload_n hx hb dX2_codeword_20 rfl (lv_at hl 0 rfl) ?_
  refine zv_iand hx hb (v := (nI (m9 / 16 % 16))) dX2_codeword_21 (zand15 _) ?_
  refine zv_iadd hx hb (v := (nI (16 + (m9 / 16 % 16)))) dX2_codeword_22 (nI_add _ _) ?_
  refine za_l hx hb hK hP 10 (f := fun k9 => lN (zParts k9)) (v := (lN (zParts (16 + (m9 / 16 % 16))))) rfl (by omega) (by decide) dX2_codeword_23 (rfl) ?_
  refine zv_lxor hx hb (v := (lN ((zParts (m9 % 16)) ^^^ (zParts (16 + (m9 / 16 % 16)))))) dX2_codeword_24 (fb_xorL _ _) ?_
  refine lv_aload_n hx hb dX2_codeword_25 rfl (lv_at hl 1 rfl) ?_
  refine va_get (D := D) (ci := 2) (v := .ref (A 10)) (C := RX2) (T := TX2) (N := 1) hx hb hts qX2_codeword_inX2 hown hK hP 9 rfl rfl 0 (by decide) (hts _ qX2_codeword_Cond_fieldLink_RX2_9_NestedCodes_OuterCode_parts_J_) (fun _ h9 => h9) rfl dX2_codeword_26 ?_
  refine lv_bipush (v := (nI 32)) hx hb dX2_codeword_29 (by decide) ?_
  refine lv_iload_n hx hb dX2_codeword_31 rfl (lv_at hl 2 rfl) ?_
  refine lv_bipush (v := (nI 8)) hx hb dX2_codeword_32 (by decide) ?_
  refine zv_ishr hx hb (v := (nI (m9 / 2 ^ 8))) dX2_codeword_34 (zShr (by omega) (by omega)) ?_
  refine lv_iload_n hx hb dX2_codeword_35 rfl (lv_at hl 0 rfl) ?_
  refine zv_iand hx hb (v := (nI (m9 / 256 % 16))) dX2_codeword_36 (zand15 _) ?_
  refine zv_iadd hx hb (v := (nI (32 + (m9 / 256 % 16)))) dX2_codeword_37 (nI_add _ _) ?_
  refine za_l hx hb hK hP 10 (f := fun k9 => lN (zParts k9)) (v := (lN (zParts (32 + (m9 / 256 % 16))))) rfl (by omega) (by decide) dX2_codeword_38 (rfl) ?_
  refine zv_lxor hx hb (v := (lN (((zParts (m9 % 16)) ^^^ (zParts (16 + (m9 / 16 % 16)))) ^^^ (zParts (32 + (m9 / 256 % 16)))))) dX2_codeword_39 (fb_xorL _ _) ?_
  exact zr_l hx hb hr hlk hQ dX2_codeword_40 (rfl)
theorem qX2_markSymbols_Cond_constantLong_RX2_19_18764998447377_ : Cond.constantLong RX2 19 (18764998447377) ∈ wsX2_markSymbols := by decide +kernel
set_option maxHeartbeats 4000000 in
set_option maxRecDepth 100000 in
theorem c_X2_markSymbols (l : Launch) (D : va_G) (Y : Nat → ClassId)  (x : Nat)  (hx9 : x < 18446744073709551616) : Met l yX2_markSymbols wsX2_markSymbols ({ frames := 0, cells := 0, slots := 0, locals := 0 } : Room) (va_Pc [.long (lN (x))] (zB D Y ([]))) (zR (.long (lN (mkS x)))) 0 0 (fun _ => False) := by
  refine zr_of (cc := cX2_markSymbols) (maxL := 4) (ret := (some .long)) (by decide) rfl (Nat.le_of_ble_eq_true rfl) ?_
  intro p e s m below meth c R args Q hR hx hb hml hr hlk hown hts hK hN hP hQ ls hl
  have hown : s.vm.findClass RX2 = some m.cls := hown
  have hl : lv_has ls 4 [(0, .long (lN (x)))] := hl
  refine lv_lload_n hx hb dX2_markSymbols_0 rfl (lv_at hl 0 rfl) ?_
  refine lv_lload_n hx hb dX2_markSymbols_1 rfl (lv_at hl 0 rfl) ?_
  refine lv_iconst (v := (nI 1)) hx hb dX2_markSymbols_2 (by decide) ?_
  refine lv_lushr hx hb dX2_markSymbols_3 (v := (lN (x / 2 ^ 1))) (wb_shr hx9 (by decide)) ?_
  refine zv_lor hx hb (v := (lN (x ||| (x / 2 ^ 1)))) dX2_markSymbols_4 (fb_orL _ _) ?_
  refine lv_lstore_n (lv' := [(2, .long (lN (x ||| (x / 2 ^ 1)))), (0, .long (lN (x)))]) hx hb dX2_markSymbols_5 rfl hl (by decide) rfl (fun ls hl => ?_)
  refine lv_lload_n hx hb dX2_markSymbols_6 rfl (lv_at hl 0 rfl) ?_
  refine lv_lload_n hx hb dX2_markSymbols_7 rfl (lv_at hl 0 rfl) ?_
  refine lv_iconst (v := (nI 2)) hx hb dX2_markSymbols_8 (by decide) ?_
  refine lv_lushr hx hb dX2_markSymbols_9 (v := (lN ((x ||| (x / 2 ^ 1)) / 2 ^ 2))) (wb_shr (Nat.or_lt_two_pow (n := 64) hx9 (Nat.lt_of_le_of_lt (Nat.div_le_self _ _) hx9)) (by decide)) ?_
  refine zv_lor hx hb (v := (lN ((x ||| (x / 2 ^ 1)) ||| ((x ||| (x / 2 ^ 1)) / 2 ^ 2)))) dX2_markSymbols_10 (fb_orL _ _) ?_
  refine lv_ldc2 hx hb hown (hts _ qX2_markSymbols_Cond_constantLong_RX2_19_18764998447377_) dX2_markSymbols_11 ?_
  refine zt_l (v := lN 18764998447377) (by rfl) ?_
  refine zv_land hx hb (v := (lN (((x ||| (x / 2 ^ 1)) ||| ((x ||| (x / 2 ^ 1)) / 2 ^ 2)) &&& 18764998447377))) dX2_markSymbols_14 (fb_andL _ _) ?_
  exact zr_l hx hb hr hlk hQ dX2_markSymbols_15 (rfl)
theorem qX2_marks_Cond_constantLong_RX2_19_18764998447377_ : Cond.constantLong RX2 19 (18764998447377) ∈ wsX2_marks := by decide +kernel
set_option maxHeartbeats 4000000 in
set_option maxRecDepth 100000 in
theorem c_X2_marks (l : Launch) (D : va_G) (Y : Nat → ClassId)  (n : Nat)  (hn : n ≤ 12) : Met l yX2_marks wsX2_marks ({ frames := 0, cells := 0, slots := 0, locals := 0 } : Room) (va_Pc [.int (nI n)] (zB D Y ([]))) (zR (.long (lN (mkP (fun j => decide (j < n)))))) 0 0 (fun _ => False) := by
  refine zr_of (cc := cX2_marks) (maxL := 1) (ret := (some .long)) (by decide) rfl (Nat.le_of_ble_eq_true rfl) ?_
  intro p e s m below meth c R args Q hR hx hb hml hr hlk hown hts hK hN hP hQ ls hl
  have hown : s.vm.findClass RX2 = some m.cls := hown
  have hl : lv_has ls 1 [(0, .int (nI n))] := hl
  refine lv_ldc2 hx hb hown (hts _ qX2_marks_Cond_constantLong_RX2_19_18764998447377_) dX2_marks_0 ?_
  refine zt_l (v := lN 18764998447377) (by rfl) ?_
  refine lv_lconst (v := lN 1) hx hb dX2_marks_3 (by decide) ?_
  refine lv_iconst (v := (nI 4)) hx hb dX2_marks_4 (by decide) ?_
  refine lv_iload_n hx hb dX2_marks_5 rfl (lv_at hl 0 rfl) ?_
  refine zv_imul hx hb (v := (nI (4 * n))) dX2_marks_6 (pk_mul _ _) ?_
  refine lv_lshl hx hb dX2_marks_7 (v := (lN (1 * 2 ^ (4 * n)))) (wb_shl _ (by omega)) ?_
  refine lv_lconst (v := lN 1) hx hb dX2_marks_8 (by decide) ?_
  refine zv_lsub hx hb (v := (lN ((1 * 2 ^ (4 * n)) - 1))) dX2_marks_9 (lN_sub (by have := Nat.two_pow_pos (4 * n); omega)) ?_
  refine zv_land hx hb (v := (lN (18764998447377 &&& ((1 * 2 ^ (4 * n)) - 1)))) dX2_marks_10 (fb_andL _ _) ?_
  exact zr_l hx hb hr hlk hQ dX2_marks_11 (congrArg lN (mk_marks n hn))
theorem qX4_outerDistance_Cond_fieldLink_RX4_9_NestedCodes_State_length_I_ : Cond.fieldLink RX4 9 "NestedCodes$State" "length" "I" ∈ wsX4_outerDistance := by decide +kernel
theorem qX4_outerDistance_inX4 : ∀ w ∈ wsX40, w ∈ wsX4_outerDistance := by decide +kernel
theorem qX4_outerDistance_Cond_fieldLink_RX4_15_NestedCodes_State_dimension_I_ : Cond.fieldLink RX4 15 "NestedCodes$State" "dimension" "I" ∈ wsX4_outerDistance := by decide +kernel
set_option maxHeartbeats 4000000 in
set_option maxRecDepth 100000 in
theorem c_X4_outerDistance (l : Launch) (D : va_G) (Y : Nat → ClassId) (A : Nat → Nat) (B : Nat → Nat) (σ : Nat → Nat) (hn : Nat) (h : Nat → Nat → Nat) (wd : Nat → Nat) (dd : Nat) (r0 : Nat → Nat) (r1 : Nat → Nat) (r2 : Nat → Nat) (r3 : Nat → Nat) (r4 : Nat → Nat) (rl : Nat) (rp : Nat) (rb : Nat) (wt : Nat → Nat) (wn : Nat)   (kσ : zWF σ) : Met l yX4_outerDistance wsX4_outerDistance ({ frames := 0, cells := 0, slots := 0, locals := 0 } : Room) (va_Pc [.ref (A 1)] (zB D Y (CX Y A B σ hn h wd dd r0 r1 r2 r3 r4 rl rp rb wt wn))) (zR (.int (nI (σ 0 - σ 1 + 1)))) 0 0 (fun _ => False) := by
  refine zr_of (cc := cX4_outerDistance) (maxL := 1) (ret := (some .int)) (by decide) rfl (Nat.le_of_ble_eq_true rfl) ?_
  intro p e s m below meth c R args Q hR hx hb hml hr hlk hown hts hK hN hP hQ ls hl
  have hown : s.vm.findClass RX4 = some m.cls := hown
  have hl : lv_has ls 1 [(0, .ref (A 1))] := hl
  have kw := kσ
  obtain ⟨n3, n12, d1, d3, dn, b4, b10, gl, lm, sn, wl, wnz⟩ := kw
  have pb := zp_b b10
  have pk9 := zp_k d3
  refine lv_aload_n hx hb dX4_outerDistance_0 rfl (lv_at hl 0 rfl) ?_
  refine va_get (D := D) (ci := 4) (v := .int (nI (σ 0))) (C := RX4) (T := TX4) (N := 7) hx hb hts qX4_outerDistance_inX4 hown hK hP 1 rfl rfl 0 (by decide) (hts _ qX4_outerDistance_Cond_fieldLink_RX4_9_NestedCodes_State_length_I_) (fun _ h9 => h9) rfl dX4_outerDistance_1 ?_
  refine lv_aload_n hx hb dX4_outerDistance_4 rfl (lv_at hl 0 rfl) ?_
  refine va_get (D := D) (ci := 4) (v := .int (nI (σ 1))) (C := RX4) (T := TX4) (N := 7) hx hb hts qX4_outerDistance_inX4 hown hK hP 1 rfl rfl 1 (by decide) (hts _ qX4_outerDistance_Cond_fieldLink_RX4_15_NestedCodes_State_dimension_I_) (fun _ h9 => h9) rfl dX4_outerDistance_5 ?_
  refine zv_isub hx hb (v := (nI ((σ 0) - (σ 1)))) dX4_outerDistance_8 (pk_sub (by omega)) ?_
  refine lv_iconst (v := (nI 1)) hx hb dX4_outerDistance_9 (by decide) ?_
  refine zv_iadd hx hb (v := (nI (((σ 0) - (σ 1)) + 1))) dX4_outerDistance_10 (nI_add _ _) ?_
  exact zr_i hx hb hr hlk hQ dX4_outerDistance_11 (rfl)
theorem qX4_messages_Cond_fieldLink_RX4_15_NestedCodes_State_dimension_I_ : Cond.fieldLink RX4 15 "NestedCodes$State" "dimension" "I" ∈ wsX4_messages := by decide +kernel
theorem qX4_messages_inX4 : ∀ w ∈ wsX40, w ∈ wsX4_messages := by decide +kernel
set_option maxHeartbeats 4000000 in
set_option maxRecDepth 100000 in
theorem c_X4_messages (l : Launch) (D : va_G) (Y : Nat → ClassId) (A : Nat → Nat) (B : Nat → Nat) (σ : Nat → Nat) (hn : Nat) (h : Nat → Nat → Nat) (wd : Nat → Nat) (dd : Nat) (r0 : Nat → Nat) (r1 : Nat → Nat) (r2 : Nat → Nat) (r3 : Nat → Nat) (r4 : Nat → Nat) (rl : Nat) (rp : Nat) (rb : Nat) (wt : Nat → Nat) (wn : Nat)   (kσ : zWF σ) : Met l yX4_messages wsX4_messages ({ frames := 0, cells := 0, slots := 0, locals := 0 } : Room) (va_Pc [.ref (A 1)] (zB D Y (CX Y A B σ hn h wd dd r0 r1 r2 r3 r4 rl rp rb wt wn))) (zR (.int (nI (2 ^ (4 * σ 1))))) 0 0 (fun _ => False) := by
  refine zr_of (cc := cX4_messages) (maxL := 1) (ret := (some .int)) (by decide) rfl (Nat.le_of_ble_eq_true rfl) ?_
  intro p e s m below meth c R args Q hR hx hb hml hr hlk hown hts hK hN hP hQ ls hl
  have hown : s.vm.findClass RX4 = some m.cls := hown
  have hl : lv_has ls 1 [(0, .ref (A 1))] := hl
  have kw := kσ
  obtain ⟨n3, n12, d1, d3, dn, b4, b10, gl, lm, sn, wl, wnz⟩ := kw
  have pb := zp_b b10
  have pk9 := zp_k d3
  refine lv_iconst (v := (nI 1)) hx hb dX4_messages_0 (by decide) ?_
  refine lv_iconst (v := (nI 4)) hx hb dX4_messages_1 (by decide) ?_
  refine lv_aload_n hx hb dX4_messages_2 rfl (lv_at hl 0 rfl) ?_
  refine va_get (D := D) (ci := 4) (v := .int (nI (σ 1))) (C := RX4) (T := TX4) (N := 7) hx hb hts qX4_messages_inX4 hown hK hP 1 rfl rfl 1 (by decide) (hts _ qX4_messages_Cond_fieldLink_RX4_15_NestedCodes_State_dimension_I_) (fun _ h9 => h9) rfl dX4_messages_3 ?_
  refine zv_imul hx hb (v := (nI (4 * (σ 1)))) dX4_messages_6 (pk_mul _ _) ?_
  refine zv_ishl hx hb (v := (nI (2 ^ (4 * σ 1)))) dX4_messages_7 (by rw [zShl (by omega) (by omega), Nat.one_mul]) ?_
  exact zr_i hx hb hr hlk hQ dX4_messages_8 (rfl)
theorem qX4_allBits_Cond_fieldLink_RX4_18_NestedCodes_State_bits_I_ : Cond.fieldLink RX4 18 "NestedCodes$State" "bits" "I" ∈ wsX4_allBits := by decide +kernel
theorem qX4_allBits_inX4 : ∀ w ∈ wsX40, w ∈ wsX4_allBits := by decide +kernel
set_option maxHeartbeats 4000000 in
set_option maxRecDepth 100000 in
theorem c_X4_allBits (l : Launch) (D : va_G) (Y : Nat → ClassId) (A : Nat → Nat) (B : Nat → Nat) (σ : Nat → Nat) (hn : Nat) (h : Nat → Nat → Nat) (wd : Nat → Nat) (dd : Nat) (r0 : Nat → Nat) (r1 : Nat → Nat) (r2 : Nat → Nat) (r3 : Nat → Nat) (r4 : Nat → Nat) (rl : Nat) (rp : Nat) (rb : Nat) (wt : Nat → Nat) (wn : Nat)   (kσ : zWF σ) : Met l yX4_allBits wsX4_allBits ({ frames := 0, cells := 0, slots := 0, locals := 0 } : Room) (va_Pc [.ref (A 1)] (zB D Y (CX Y A B σ hn h wd dd r0 r1 r2 r3 r4 rl rp rb wt wn))) (zR (.int (nI (2 ^ (σ 2) - 1)))) 0 0 (fun _ => False) := by
  refine zr_of (cc := cX4_allBits) (maxL := 1) (ret := (some .int)) (by decide) rfl (Nat.le_of_ble_eq_true rfl) ?_
  intro p e s m below meth c R args Q hR hx hb hml hr hlk hown hts hK hN hP hQ ls hl
  have hown : s.vm.findClass RX4 = some m.cls := hown
  have hl : lv_has ls 1 [(0, .ref (A 1))] := hl
  have kw := kσ
  obtain ⟨n3, n12, d1, d3, dn, b4, b10, gl, lm, sn, wl, wnz⟩ := kw
  have pb := zp_b b10
  have pk9 := zp_k d3
  refine lv_iconst (v := (nI 1)) hx hb dX4_allBits_0 (by decide) ?_
  refine lv_aload_n hx hb dX4_allBits_1 rfl (lv_at hl 0 rfl) ?_
  refine va_get (D := D) (ci := 4) (v := .int (nI (σ 2))) (C := RX4) (T := TX4) (N := 7) hx hb hts qX4_allBits_inX4 hown hK hP 1 rfl rfl 2 (by decide) (hts _ qX4_allBits_Cond_fieldLink_RX4_18_NestedCodes_State_bits_I_) (fun _ h9 => h9) rfl dX4_allBits_2 ?_
  refine zv_ishl hx hb (v := (nI (2 ^ (σ 2)))) dX4_allBits_5 (by rw [zShl (by omega) (by omega), Nat.one_mul]) ?_
  refine lv_iconst (v := (nI 1)) hx hb dX4_allBits_6 (by decide) ?_
  refine zv_isub hx hb (v := (nI ((2 ^ (σ 2)) - 1))) dX4_allBits_7 (pk_sub (Nat.two_pow_pos _)) ?_
  exact zr_i hx hb hr hlk hQ dX4_allBits_8 (rfl)
