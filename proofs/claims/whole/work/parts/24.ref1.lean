set_option maxHeartbeats 4000000 in
set_option maxRecDepth 100000 in
theorem c_X6_multiplied (l : Launch) (D : va_G) (Y : Nat → ClassId)  (a : Nat) (b : Nat)  (ha : a < 16) (hb9 : b < 16) : Met l yX6_multiplied wsX6_multiplied ({ frames := 0, cells := 0, slots := 0, locals := 0 } : Room) (va_Pc [.int (nI a), .int (nI b)] (zB D Y ([]))) (zR (.int (nI (gmul a b)))) 0 0 (fun _ => False) := by
  refine zr_of (cc := cX6_multiplied) (maxL := 4) (ret := (some .int)) (by decide) rfl (Nat.le_of_ble_eq_true rfl) ?_
  intro p e s m below meth c R args Q hR hx hb hml hr hlk hown hts hK hN hP hQ ls hl
  have hown : s.vm.findClass RX6 = some m.cls := hown
  have hl : lv_has ls 4 [(0, .int (nI a)), (1, .int (nI b))] := hl
  refine lv_iconst (v := (nI 0)) hx hb dX6_multiplied_0 (by decide) ?_
  refine lv_istore_n (lv' := [(2, .int (nI 0)), (0, .int (nI a)), (1, .int (nI b))]) hx hb dX6_multiplied_1 rfl hl (by decide) rfl (fun ls hl => ?_)
  refine lv_iconst (v := (nI 0)) hx hb dX6_multiplied_2 (by decide) ?_
  refine lv_istore_n (lv' := [(3, .int (nI 0)), (2, .int (nI 0)), (0, .int (nI a)), (1, .int (nI b))]) hx hb dX6_multiplied_3 rfl hl (by decide) rfl (fun ls hl => ?_)
  have L4 : ∀ (n9 : Nat) (i : Nat) (hi : i ≤ 4), 4 - i < n9 → ∀ ls : Array Slot, lv_has ls 4 [(3, .int (nI i)), (2, .int (nI (mlA a b i))), (0, .int (nI a)), (1, .int (nI b))] → W p l e R s m args below meth c s.heap [] 0 0 Q (F0 m 4 ls []) := by
    intro n9
    induction n9 with
    | zero => intro i hi hn9; exact absurd hn9 (Nat.not_lt_zero _)
    | succ n9 ih9 =>
      have ih4 := ih9
      clear ih9
      intro i hi hn9 ls hl
      have hml9 := mlA_lt (i := i) ha hb9 hi
      have h2i : 2 ^ i ≤ 2 ^ 4 := Nat.pow_le_pow_right (by decide) (by omega)
      have hai : a * 2 ^ i ≤ 15 * 2 ^ 4 := Nat.mul_le_mul (by omega) h2i
      refine lv_iload_n hx hb dX6_multiplied_4 rfl (lv_at hl 0 rfl) ?_
      refine lv_iconst (v := (nI 4)) hx hb dX6_multiplied_5 (by decide) ?_
      refine zn_icmp_ge (tgt := 34)  hx hb dX6_multiplied_6 (by decide) (by omega) (by omega) (fun c6 => ?_) (fun c6 => ?_)
      · obtain rfl : i = 4 := by omega
        refine lv_bipush (v := (nI 6)) hx hb dX6_multiplied_34 (by decide) ?_
        refine lv_istore_n (lv' := [(3, .int (nI 6)), (2, .int (nI (mlA a b 4))), (0, .int (nI a)), (1, .int (nI b))]) hx hb dX6_multiplied_36 rfl hl (by decide) rfl (fun ls hl => ?_)
        have L37 : ∀ (n9 : Nat) (t : Nat) (ht : t ≤ 3), 3 - t < n9 → ∀ ls : Array Slot, lv_has ls 4 [(3, .int (nI (6 - t))), (2, .int (nI (mlB (mlA a b 4) t))), (0, .int (nI a)), (1, .int (nI b))] → W p l e R s m args below meth c s.heap [] 0 0 Q (F0 m 37 ls []) := by
          intro n9
          induction n9 with
          | zero => intro t ht hn9; exact absurd hn9 (Nat.not_lt_zero _)
          | succ n9 ih9 =>
            have ih37 := ih9
            clear ih9
            intro t ht hn9 ls hl
            have hmb := mlB_lt (mlA_lt (i := 4) ha hb9 (Nat.le_refl 4)) ht
            have h2t : 2 ^ (2 - t) ≤ 2 ^ 2 := Nat.pow_le_pow_right (by decide) (by omega)
            refine lv_iload_n hx hb dX6_multiplied_37 rfl (lv_at hl 0 rfl) ?_
            refine lv_iconst (v := (nI 3)) hx hb dX6_multiplied_38 (by decide) ?_
            refine zn_icmp_le (tgt := 70)  hx hb dX6_multiplied_39 (by decide) (by omega) (by omega) (fun c39 => ?_) (fun c39 => ?_)
            · obtain rfl : t = 3 := by omega
              refine lv_iload_n hx hb dX6_multiplied_70 rfl (lv_at hl 1 rfl) ?_
              exact zr_i hx hb hr hlk hQ dX6_multiplied_71 (congrArg nI (ml_ok ha hb9))
            · refine lv_iload_n hx hb dX6_multiplied_42 rfl (lv_at hl 1 rfl) ?_
              refine lv_iload_n hx hb dX6_multiplied_43 rfl (lv_at hl 1 rfl) ?_
              refine lv_iload_n hx hb dX6_multiplied_44 rfl (lv_at hl 0 rfl) ?_
              refine zv_ishr hx hb (v := (nI ((mlB (mlA a b 4) t) / 2 ^ (6 - t)))) dX6_multiplied_45 (zShr (by omega) (by omega)) ?_
              refine lv_iconst (v := (nI 1)) hx hb dX6_multiplied_46 (by decide) ?_
              refine zv_iand hx hb (v := (nI (((mlB (mlA a b 4) t) / 2 ^ (6 - t)) % 2))) dX6_multiplied_47 (znand1 _) ?_
              refine lv_iconst (v := (nI 1)) hx hb dX6_multiplied_48 (by decide) ?_
              have J62 : W p l e R s m args below meth c s.heap [] 0 0 Q (F0 m 62 ls [.int (nI (if mlB (mlA a b 4) t / 2 ^ (6 - t) % 2 = 1 then 19 * 2 ^ (2 - t) else 0)), .int (nI (mlB (mlA a b 4) t))]) := by
                refine zv_ixor hx hb (v := (nI ((mlB (mlA a b 4) t) ^^^ (if mlB (mlA a b 4) t / 2 ^ (6 - t) % 2 = 1 then 19 * 2 ^ (2 - t) else 0)))) dX6_multiplied_62 (nx_xor _ _) ?_
                refine lv_istore_n (lv' := [(2, .int (nI ((mlB (mlA a b 4) t) ^^^ (if mlB (mlA a b 4) t / 2 ^ (6 - t) % 2 = 1 then 19 * 2 ^ (2 - t) else 0)))), (3, .int (nI (6 - t))), (0, .int (nI a)), (1, .int (nI b))]) hx hb dX6_multiplied_63 rfl hl (by decide) rfl (fun ls hl => ?_)
                refine lv_iinc (v := (nI (6 - t - 1))) (lv' := [(3, .int (nI (6 - t - 1))), (2, .int (nI ((mlB (mlA a b 4) t) ^^^ (if mlB (mlA a b 4) t / 2 ^ (6 - t) % 2 = 1 then 19 * 2 ^ (2 - t) else 0)))), (0, .int (nI a)), (1, .int (nI b))]) hx hb dX6_multiplied_64 hl (k := 1) rfl (zdec (by omega)) (by decide) rfl (fun ls hl => ?_)
                refine lv_goto (tgt := 37) hx hb dX6_multiplied_67 (by decide) ?_
                rw [show (.int (nI (6 - t - 1)) : Value) = .int (nI (6 - (t + 1))) from congrArg _ (congrArg nI (show 6 - t - 1 = 6 - (t + 1) by omega))] at hl
                exact ih37 (t + 1) (by omega) (by omega) ls (lv_sub hl [0, 1, 2, 3] rfl)
              refine zn_icmp_ne (tgt := 61)  hx hb dX6_multiplied_49 (by decide) (by omega) (by omega) (fun c49 => ?_) (fun c49 => ?_)
              · refine lv_iconst (v := (nI 0)) hx hb dX6_multiplied_61 (by decide) ?_
                refine zt_i (v := (nI (if mlB (mlA a b 4) t / 2 ^ (6 - t) % 2 = 1 then 19 * 2 ^ (2 - t) else 0))) (congrArg nI (by first | rw [if_pos (by omega)] | rw [if_neg (by omega)])) ?_
                exact J62
              · refine lv_bipush (v := (nI 19)) hx hb dX6_multiplied_52 (by decide) ?_
                refine lv_iload_n hx hb dX6_multiplied_54 rfl (lv_at hl 0 rfl) ?_
                refine lv_iconst (v := (nI 4)) hx hb dX6_multiplied_55 (by decide) ?_
                refine zv_isub hx hb (v := (nI (2 - t))) dX6_multiplied_56 ((pk_sub (by omega)).trans (congrArg nI (by omega))) ?_
                refine zv_ishl hx hb (v := (nI (19 * 2 ^ (2 - t)))) dX6_multiplied_57 (zShl (by omega) (by omega)) ?_
                refine lv_goto (tgt := 62) hx hb dX6_multiplied_58 (by decide) ?_
                refine zt_i (v := (nI (if mlB (mlA a b 4) t / 2 ^ (6 - t) % 2 = 1 then 19 * 2 ^ (2 - t) else 0))) (congrArg nI (by first | rw [if_pos (by omega)] | rw [if_neg (by omega)])) ?_
                exact J62
        exact L37 (3 - 0 + 1) 0 (by omega) (Nat.lt_succ_self _) ls (lv_sub hl [0, 1, 2, 3] rfl)
      · refine lv_iload_n hx hb dX6_multiplied_9 rfl (lv_at hl 1 rfl) ?_
        refine lv_iload_n hx hb dX6_multiplied_10 rfl (lv_at hl 3 rfl) ?_
        refine lv_iload_n hx hb dX6_multiplied_11 rfl (lv_at hl 0 rfl) ?_
        refine zv_ishr hx hb (v := (nI (b / 2 ^ i))) dX6_multiplied_12 (zShr (by omega) (by omega)) ?_
        refine lv_iconst (v := (nI 1)) hx hb dX6_multiplied_13 (by decide) ?_
        refine zv_iand hx hb (v := (nI ((b / 2 ^ i) % 2))) dX6_multiplied_14 (znand1 _) ?_
        refine lv_iconst (v := (nI 1)) hx hb dX6_multiplied_15 (by decide) ?_
        have J26 : W p l e R s m args below meth c s.heap [] 0 0 Q (F0 m 26 ls [.int (nI (if b / 2 ^ i % 2 = 1 then a * 2 ^ i else 0)), .int (nI (mlA a b i))]) := by
          refine zv_ixor hx hb (v := (nI ((mlA a b i) ^^^ (if b / 2 ^ i % 2 = 1 then a * 2 ^ i else 0)))) dX6_multiplied_26 (nx_xor _ _) ?_
          refine lv_istore_n (lv' := [(2, .int (nI ((mlA a b i) ^^^ (if b / 2 ^ i % 2 = 1 then a * 2 ^ i else 0)))), (3, .int (nI i)), (0, .int (nI a)), (1, .int (nI b))]) hx hb dX6_multiplied_27 rfl hl (by decide) rfl (fun ls hl => ?_)
          refine lv_iinc (v := (nI (i + 1))) (lv' := [(3, .int (nI (i + 1))), (2, .int (nI ((mlA a b i) ^^^ (if b / 2 ^ i % 2 = 1 then a * 2 ^ i else 0)))), (0, .int (nI a)), (1, .int (nI b))]) hx hb dX6_multiplied_28 hl (k := 1) rfl (zinc _) (by decide) rfl (fun ls hl => ?_)
          refine lv_goto (tgt := 4) hx hb dX6_multiplied_31 (by decide) ?_
          exact ih4 (i + 1) (by omega) (by omega) ls (lv_sub hl [0, 1, 2, 3] rfl)
        refine zn_icmp_ne (tgt := 25)  hx hb dX6_multiplied_16 (by decide) (by omega) (by omega) (fun c16 => ?_) (fun c16 => ?_)
        · refine lv_iconst (v := (nI 0)) hx hb dX6_multiplied_25 (by decide) ?_
          refine zt_i (v := (nI (if b / 2 ^ i % 2 = 1 then a * 2 ^ i else 0))) (congrArg nI (by first | rw [if_pos (by omega)] | rw [if_neg (by omega)])) ?_
          exact J26
        · refine lv_iload_n hx hb dX6_multiplied_19 rfl (lv_at hl 2 rfl) ?_
          refine lv_iload_n hx hb dX6_multiplied_20 rfl (lv_at hl 0 rfl) ?_
          refine zv_ishl hx hb (v := (nI (a * 2 ^ i))) dX6_multiplied_21 (zShl (by omega) (by omega)) ?_
          refine lv_goto (tgt := 26) hx hb dX6_multiplied_22 (by decide) ?_
          refine zt_i (v := (nI (if b / 2 ^ i % 2 = 1 then a * 2 ^ i else 0))) (congrArg nI (by first | rw [if_pos (by omega)] | rw [if_neg (by omega)])) ?_
          exact J26
  exact L4 (4 - 0 + 1) 0 (by omega) (Nat.lt_succ_self _) ls (lv_sub hl [0, 1, 2, 3] rfl)
theorem qX6_prepares_Cond_fieldLink_RX6_55_NestedCodesModel_least_I_ : Cond.fieldLink RX6 55 "NestedCodesModel" "least" "I" ∈ wsX6_prepares := by decide +kernel
theorem qX6_prepares_inX6 : ∀ w ∈ wsX60, w ∈ wsX6_prepares := by decide +kernel
theorem qX6_prepares_Cond_fieldLink_RX6_7_NestedCodesModel_d_I_ : Cond.fieldLink RX6 7 "NestedCodesModel" "d" "[I" ∈ wsX6_prepares := by decide +kernel
theorem qX6_prepares_Cond_fieldLink_RX6_33_NestedCodesModel_gap_I_ : Cond.fieldLink RX6 33 "NestedCodesModel" "gap" "[I" ∈ wsX6_prepares := by decide +kernel
theorem qX6_prepares_Cond_fieldLink_RX6_27_NestedCodesModel_word_I_ : Cond.fieldLink RX6 27 "NestedCodesModel" "word" "[I" ∈ wsX6_prepares := by decide +kernel
theorem qX6_prepares_Cond_fieldLink_RX6_30_NestedCodesModel_symbol_I_ : Cond.fieldLink RX6 30 "NestedCodesModel" "symbol" "[I" ∈ wsX6_prepares := by decide +kernel
set_option maxHeartbeats 4000000 in
set_option maxRecDepth 100000 in
theorem c_X6_prepares (l : Launch) (D : va_G) (Y : Nat → ClassId) (A : Nat → Nat) (σ : Nat → Nat) (hf : Nat → Nat) (hn : Nat) (wt : Nat → Nat) (wn : Nat) (tm : Nat → Nat) (cd : Nat → Nat) (wd : Nat → Nat) (sy : Nat → Nat) (gp : Nat → Nat) (lz : Nat) (i0 : Nat → Nat) (i1 : Nat → Nat) (i2 : Nat → Nat) (i3 : Nat → Nat) (fo : Int32) (de : Int32)   (kσ : zWF σ) : Met l yX6_prepares wsX6_prepares ({ frames := 1, cells := 0, slots := 0, locals := 22 } : Room) (va_Pc [.ref (A 0)] (zBw D Y (MX Y A σ hf hn wt wn tm cd wd sy gp lz i0 i1 i2 i3 fo de))) (zW none D (MX Y A σ hf hn wt wn tm cd (wdS σ) (zmx (2 ^ (σ 2)) (syS σ) sy) (zmx (2 ^ (σ 2)) (gpS σ) gp) (ddS σ) i0 i1 i2 i3 fo de) (zA (MX Y A σ hf hn wt wn tm cd wd sy gp lz i0 i1 i2 i3 fo de))) 0 0 (zA (MX Y A σ hf hn wt wn tm cd wd sy gp lz i0 i1 i2 i3 fo de)) := by
  refine zw_of (cc := cX6_prepares) (maxL := 4) (ret := none) (by decide) rfl (Nat.le_of_ble_eq_true rfl) ?_
  intro p e s m below meth c R args Q FA hR hx hb hml hr hlk hown hts hK hN hQ hP hD hS ls hl
  have hown : s.vm.findClass RX6 = some m.cls := hown
  have hl : lv_has ls 4 [(0, .ref (A 0))] := hl
  have hS := hS
  have kw := kσ
  obtain ⟨n3, n12, d1, d3, dn, b4, b10, gl, lm, sn, wl, wnz⟩ := kw
  have pb := zp_b b10
  have pk9 := zp_k d3
  have p2 := Nat.two_pow_pos (σ 2)
  suffices hgo : ∀ (H : Heap) (locs : List Loc), va_P D vwCl (MX Y A σ hf hn wt wn tm cd wd sy gp lz i0 i1 i2 i3 fo de) H → va_S FA s.heap H locs → W p l e R s m args below meth c H locs 0 0 Q (F0 m 0 ls []) from hgo _ _ hP hS
  clear hP hS
  intro H locs hP hS
  refine lv_aload_n hx hb dX6_prepares_0 rfl (lv_at hl 0 rfl) ?_
  refine lv_bipush (v := (nI 99)) hx hb dX6_prepares_1 (by decide) ?_
  refine va_put (D := D) (ci := 6) (v := .int (nI 99)) (ty := .int) (C := RX6) (T := TX6) (N := 17) hx hb hts qX6_prepares_inX6 tyX6 tyX6_ok nmX6 hown hK hP hD hS 0 rfl rfl 10 (by decide) (hts _ qX6_prepares_Cond_fieldLink_RX6_55_NestedCodesModel_least_I_) (fun _ h9 => h9) rfl (by decide +kernel) rfl rfl (Nat.le_of_ble_eq_true rfl) dX6_prepares_3 (fun H locs hP hD9 hS => ?_)
  rw [MX_f_lz] at hP
  have hP : va_P D vwCl (MX Y A σ hf hn wt wn tm cd wd sy gp 99 i0 i1 i2 i3 fo de) H := hP
  have hD : va_D FA (MX Y A σ hf hn wt wn tm cd wd sy gp 99 i0 i1 i2 i3 fo de) := MX_dd hD
  clear hD9
  refine lv_iconst (v := (nI 0)) hx hb dX6_prepares_6 (by decide) ?_
  refine lv_istore_n (lv' := [(1, .int (nI 0)), (0, .ref (A 0))]) hx hb dX6_prepares_7 rfl hl (by decide) rfl (fun ls hl => ?_)
  have L8 : ∀ (n9 : Nat) (t : Nat) (ht : t ≤ 16), 16 - t < n9 → ∀ (H : Heap) (locs : List Loc), va_P D vwCl (MX Y A σ hf hn wt wn tm cd (zmx t (wdS σ) wd) sy gp (dmin (wdS σ) 99 t) i0 i1 i2 i3 fo de) H → va_D FA (MX Y A σ hf hn wt wn tm cd (zmx t (wdS σ) wd) sy gp (dmin (wdS σ) 99 t) i0 i1 i2 i3 fo de) → va_S FA s.heap H locs → ∀ ls : Array Slot, lv_has ls 4 [(1, .int (nI t)), (0, .ref (A 0))] → W p l e R s m args below meth c H locs 0 0 Q (F0 m 8 ls []) := by
    intro n9
    induction n9 with
    | zero => intro t ht hn9; exact absurd hn9 (Nat.not_lt_zero _)
    | succ n9 ih9 =>
      have ih8 := ih9
      clear ih9
      intro t ht hn9 H locs hP hD hS ls hl
      have hdm := dmin_le (wdS σ) 99 t
      have hwt := zwd_1024 kσ t
      have hpw := popc_le (wdS σ t)
      refine lv_iload_n hx hb dX6_prepares_8 rfl (lv_at hl 0 rfl) ?_
      refine lv_bipush (v := (nI 16)) hx hb dX6_prepares_9 (by decide) ?_
      refine zn_icmp_ge (tgt := 110)  hx hb dX6_prepares_11 (by decide) (by omega) (by omega) (fun c11 => ?_) (fun c11 => ?_)
      · obtain rfl : t = 16 := by omega
        have hP := zP_arrI 6 (fun j => nI (wdS σ j)) hP rfl (fun j hj => congrArg nI (zmx_in _ _ (by omega)))
        rw [MX_s6, dd_99 kσ] at hP
        have hP : va_P D vwCl (MX Y A σ hf hn wt wn tm cd (wdS σ) sy gp (ddS σ) i0 i1 i2 i3 fo de) H := hP
        have hD : va_D FA (MX Y A σ hf hn wt wn tm cd (wdS σ) sy gp (ddS σ) i0 i1 i2 i3 fo de) := MX_dd hD
        refine lv_iconst (v := (nI 0)) hx hb dX6_prepares_110 (by decide) ?_
        refine lv_istore_n (lv' := [(1, .int (nI 0)), (0, .ref (A 0))]) hx hb dX6_prepares_111 rfl hl (by decide) rfl (fun ls hl => ?_)
        have L112 : ∀ (n9 : Nat) (w9 : Nat) (hw9 : w9 ≤ 2 ^ (σ 2)), 2 ^ (σ 2) - w9 < n9 → ∀ (H : Heap) (locs : List Loc), va_P D vwCl (MX Y A σ hf hn wt wn tm cd (wdS σ) (zmx w9 (syS σ) sy) (zmx w9 (gpS σ) gp) (ddS σ) i0 i1 i2 i3 fo de) H → va_D FA (MX Y A σ hf hn wt wn tm cd (wdS σ) (zmx w9 (syS σ) sy) (zmx w9 (gpS σ) gp) (ddS σ) i0 i1 i2 i3 fo de) → va_S FA s.heap H locs → ∀ ls : Array Slot, lv_has ls 4 [(1, .int (nI w9)), (0, .ref (A 0))] → W p l e R s m args below meth c H locs 0 0 Q (F0 m 112 ls []) := by
          intro n9
          induction n9 with
          | zero => intro w9 hw9 hn9; exact absurd hn9 (Nat.not_lt_zero _)
          | succ n9 ih9 =>
            have ih112 := ih9
            clear ih9
            intro w9 hw9 hn9 H locs hP hD hS ls hl
            refine lv_iload_n hx hb dX6_prepares_112 rfl (lv_at hl 0 rfl) ?_
            refine lv_iconst (v := (nI 1)) hx hb dX6_prepares_113 (by decide) ?_
            refine lv_aload_n hx hb dX6_prepares_114 rfl (lv_at hl 1 rfl) ?_
            refine va_get (D := D) (ci := 6) (v := .ref (A 1)) (C := RX6) (T := TX6) (N := 17) hx hb hts qX6_prepares_inX6 hown hK hP 0 rfl rfl 0 (by decide) (hts _ qX6_prepares_Cond_fieldLink_RX6_7_NestedCodesModel_d_I_) (fun _ h9 => h9) rfl dX6_prepares_115 ?_
            refine lv_iconst (v := (nI 2)) hx hb dX6_prepares_118 (by decide) ?_
            refine za_i hx hb hK hP 1 (f := fun k9 => nI (σ k9)) (v := (nI (σ 2))) rfl (by omega) (by decide) dX6_prepares_119 (rfl) ?_
            refine zv_ishl hx hb (v := (nI (2 ^ (σ 2)))) dX6_prepares_120 (by rw [zShl (by omega) (by omega), Nat.one_mul]) ?_
            refine zn_icmp_ge (tgt := 188)  hx hb dX6_prepares_121 (by decide) (by omega) (by omega) (fun c121 => ?_) (fun c121 => ?_)
            · obtain rfl : w9 = 2 ^ (σ 2) := by omega
              exact zw_v hx hb hr hlk hQ hS dX6_prepares_188 (hP)
            · refine lv_aload_n hx hb dX6_prepares_124 rfl (lv_at hl 1 rfl) ?_
              refine va_get (D := D) (ci := 6) (v := .ref (A 8)) (C := RX6) (T := TX6) (N := 17) hx hb hts qX6_prepares_inX6 hown hK hP 0 rfl rfl 9 (by decide) (hts _ qX6_prepares_Cond_fieldLink_RX6_33_NestedCodesModel_gap_I_) (fun _ h9 => h9) rfl dX6_prepares_125 ?_
              refine lv_iload_n hx hb dX6_prepares_128 rfl (lv_at hl 0 rfl) ?_
              refine lv_bipush (v := (nI 99)) hx hb dX6_prepares_129 (by decide) ?_
              refine zs_i hx hb hK hP hD hS 8 (f := fun k9 => nI ((zmx w9 (gpS σ) gp) k9)) rfl (by omega) (by decide) dX6_prepares_131 (fun H locs hP hD9 hS => ?_)
              rw [zupd] at hP
              rw [MX_s8] at hP
              have hP : va_P D vwCl (MX Y A σ hf hn wt wn tm cd (wdS σ) (zmx w9 (syS σ) sy) (va_up (zmx w9 (gpS σ) gp) w9 99) (ddS σ) i0 i1 i2 i3 fo de) H := hP
              have hD : va_D FA (MX Y A σ hf hn wt wn tm cd (wdS σ) (zmx w9 (syS σ) sy) (va_up (zmx w9 (gpS σ) gp) w9 99) (ddS σ) i0 i1 i2 i3 fo de) := MX_dd hD
              clear hD9
              refine lv_iconst (v := (nI 0)) hx hb dX6_prepares_132 (by decide) ?_
              refine lv_istore_n (lv' := [(2, .int (nI 0)), (1, .int (nI w9)), (0, .ref (A 0))]) hx hb dX6_prepares_133 rfl hl (by decide) rfl (fun ls hl => ?_)
              have L134 : ∀ (n9 : Nat) (i : Nat) (hi : i ≤ 16), 16 - i < n9 → ∀ (H : Heap) (locs : List Loc), va_P D vwCl (MX Y A σ hf hn wt wn tm cd (wdS σ) (va_up (zmx w9 (syS σ) sy) w9 (smin (wdS σ) w9 (sy w9) i)) (va_up (zmx w9 (gpS σ) gp) w9 (gmin (wdS σ) w9 i)) (ddS σ) i0 i1 i2 i3 fo de) H → va_D FA (MX Y A σ hf hn wt wn tm cd (wdS σ) (va_up (zmx w9 (syS σ) sy) w9 (smin (wdS σ) w9 (sy w9) i)) (va_up (zmx w9 (gpS σ) gp) w9 (gmin (wdS σ) w9 i)) (ddS σ) i0 i1 i2 i3 fo de) → va_S FA s.heap H locs → ∀ ls : Array Slot, lv_has ls 4 [(2, .int (nI i)), (1, .int (nI w9)), (0, .ref (A 0))] → W p l e R s m args below meth c H locs 0 0 Q (F0 m 134 ls []) := by
                intro n9
                induction n9 with
                | zero => intro i hi hn9; exact absurd hn9 (Nat.not_lt_zero _)
                | succ n9 ih9 =>
                  have ih134 := ih9
                  clear ih9
                  intro i hi hn9 H locs hP hD hS ls hl
                  have hgm := gmin_le (wdS σ) w9 i
                  have hwi := zwd_1024 kσ i
                  refine lv_iload_n hx hb dX6_prepares_134 rfl (lv_at hl 0 rfl) ?_
                  refine lv_bipush (v := (nI 16)) hx hb dX6_prepares_135 (by decide) ?_
                  refine zn_icmp_ge (tgt := 182)  hx hb dX6_prepares_137 (by decide) (by omega) (by omega) (fun c137 => ?_) (fun c137 => ?_)
                  · obtain rfl : i = 16 := by omega
                    have e9 : va_up (zmx w9 (gpS σ) gp) w9 (gmin (wdS σ) w9 16) = zmx (w9 + 1) (gpS σ) gp := by rw [gmin_16]; exact zmx_up w9 (gpS σ) gp
                    have e8 : va_up (zmx w9 (syS σ) sy) w9 (smin (wdS σ) w9 (sy w9) 16) = zmx (w9 + 1) (syS σ) sy := by rw [smin_16]; exact zmx_up w9 (syS σ) sy
                    rw [e9, e8] at hP
                    clear e9 e8
                    have hP : va_P D vwCl (MX Y A σ hf hn wt wn tm cd (wdS σ) (zmx (w9 + 1) (syS σ) sy) (zmx (w9 + 1) (gpS σ) gp) (ddS σ) i0 i1 i2 i3 fo de) H := hP
                    have hD : va_D FA (MX Y A σ hf hn wt wn tm cd (wdS σ) (zmx (w9 + 1) (syS σ) sy) (zmx (w9 + 1) (gpS σ) gp) (ddS σ) i0 i1 i2 i3 fo de) := MX_dd hD
                    refine lv_iinc (v := (nI (w9 + 1))) (lv' := [(1, .int (nI (w9 + 1))), (2, .int (nI 16)), (0, .ref (A 0))]) hx hb dX6_prepares_182 hl (k := 1) rfl (zinc _) (by decide) rfl (fun ls hl => ?_)
                    refine lv_goto (tgt := 112) hx hb dX6_prepares_185 (by decide) ?_
                    have hP : va_P D vwCl (MX Y A σ hf hn wt wn tm cd (wdS σ) (zmx (w9 + 1) (syS σ) sy) (zmx (w9 + 1) (gpS σ) gp) (ddS σ) i0 i1 i2 i3 fo de) H := hP
                    have hD : va_D FA (MX Y A σ hf hn wt wn tm cd (wdS σ) (zmx (w9 + 1) (syS σ) sy) (zmx (w9 + 1) (gpS σ) gp) (ddS σ) i0 i1 i2 i3 fo de) := MX_dd hD
                    exact ih112 (w9 + 1) (by omega) (by omega) H locs hP hD hS ls (lv_sub hl [0, 2] rfl)
                  · refine lv_iload_n hx hb dX6_prepares_140 rfl (lv_at hl 1 rfl) ?_
                    refine lv_aload_n hx hb dX6_prepares_141 rfl (lv_at hl 2 rfl) ?_
                    refine va_get (D := D) (ci := 6) (v := .ref (A 6)) (C := RX6) (T := TX6) (N := 17) hx hb hts qX6_prepares_inX6 hown hK hP 0 rfl rfl 7 (by decide) (hts _ qX6_prepares_Cond_fieldLink_RX6_27_NestedCodesModel_word_I_) (fun _ h9 => h9) rfl dX6_prepares_142 ?_
                    refine lv_iload_n hx hb dX6_prepares_145 rfl (lv_at hl 0 rfl) ?_
                    refine za_i hx hb hK hP 6 (f := fun k9 => nI ((wdS σ) k9)) (v := (nI ((wdS σ) i))) rfl (by omega) (by decide) dX6_prepares_146 (rfl) ?_
                    refine zv_ixor hx hb (v := (nI (w9 ^^^ ((wdS σ) i)))) dX6_prepares_147 (nx_xor _ _) ?_
                    refine zc_r (va_runS (As := [.int (nI (w9 ^^^ ((wdS σ) i)))]) (rest := []) ⟨hx, hb, hml, hown, hts⟩ (c_X6_ones l D Y  (w9 ^^^ ((wdS σ) i)) (Nat.lt_trans (xor_1024 (by omega) hwi) (by decide))) (va_cwS 1 hts gX6_prepares_X6_ones rfl rfl rfl (by decide +kernel) (by rw [hR]; exact ⟨Nat.le_of_ble_eq_true rfl, Nat.le_of_ble_eq_true rfl⟩)) ⟨zB_blind, (zp_r (v := [.int (nI (w9 ^^^ ((wdS σ) i)))]) (fun k q h => absurd h (by simp)) hK hN)⟩ rfl rfl hl.1 rfl (lv_room (Nat.le_of_ble_eq_true rfl)) dX6_prepares_148 ⟨Nat.zero_le _, Nat.zero_le _⟩).run ?_
                    have hp148 := popc_le (w9 ^^^ ((wdS σ) i))
                    refine lv_istore_n (lv' := [(3, .int (nI (popc (w9 ^^^ ((wdS σ) i))))), (2, .int (nI i)), (1, .int (nI w9)), (0, .ref (A 0))]) hx hb dX6_prepares_151 rfl hl (by decide) rfl (fun ls hl => ?_)
                    refine lv_iload_n hx hb dX6_prepares_152 rfl (lv_at hl 0 rfl) ?_
                    refine lv_aload_n hx hb dX6_prepares_153 rfl (lv_at hl 3 rfl) ?_
                    refine va_get (D := D) (ci := 6) (v := .ref (A 8)) (C := RX6) (T := TX6) (N := 17) hx hb hts qX6_prepares_inX6 hown hK hP 0 rfl rfl 9 (by decide) (hts _ qX6_prepares_Cond_fieldLink_RX6_33_NestedCodesModel_gap_I_) (fun _ h9 => h9) rfl dX6_prepares_154 ?_
                    refine lv_iload_n hx hb dX6_prepares_157 rfl (lv_at hl 2 rfl) ?_
                    refine za_i hx hb hK hP 8 (f := fun k9 => nI ((va_up (zmx w9 (gpS σ) gp) w9 (gmin (wdS σ) w9 i)) k9)) (v := (nI (gmin (wdS σ) w9 i))) rfl (by omega) (by decide) dX6_prepares_158 (congrArg nI (zu_eq _ _ _)) ?_
                    refine zn_icmp_ge (tgt := 176)  hx hb dX6_prepares_159 (by decide) (by omega) (by omega) (fun c159 => ?_) (fun c159 => ?_)
                    · refine lv_iinc (v := (nI (i + 1))) (lv' := [(2, .int (nI (i + 1))), (3, .int (nI (popc (w9 ^^^ ((wdS σ) i))))), (1, .int (nI w9)), (0, .ref (A 0))]) hx hb dX6_prepares_176 hl (k := 1) rfl (zinc _) (by decide) rfl (fun ls hl => ?_)
                      refine lv_goto (tgt := 134) hx hb dX6_prepares_179 (by decide) ?_
                      have e9 : (va_up (zmx w9 (gpS σ) gp) w9 (gmin (wdS σ) w9 i)) = (va_up (zmx w9 (gpS σ) gp) w9 (gmin (wdS σ) w9 (i + 1))) := congrArg (va_up (zmx w9 (gpS σ) gp) w9) (if_neg (by omega)).symm
                      rw [e9] at hP
                      clear e9
                      have e9 : (va_up (zmx w9 (syS σ) sy) w9 (smin (wdS σ) w9 (sy w9) i)) = (va_up (zmx w9 (syS σ) sy) w9 (smin (wdS σ) w9 (sy w9) (i + 1))) := congrArg (va_up (zmx w9 (syS σ) sy) w9) (if_neg (by omega)).symm
                      rw [e9] at hP
                      clear e9
                      have hP : va_P D vwCl (MX Y A σ hf hn wt wn tm cd (wdS σ) (va_up (zmx w9 (syS σ) sy) w9 (smin (wdS σ) w9 (sy w9) (i + 1))) (va_up (zmx w9 (gpS σ) gp) w9 (gmin (wdS σ) w9 (i + 1))) (ddS σ) i0 i1 i2 i3 fo de) H := hP
                      have hD : va_D FA (MX Y A σ hf hn wt wn tm cd (wdS σ) (va_up (zmx w9 (syS σ) sy) w9 (smin (wdS σ) w9 (sy w9) (i + 1))) (va_up (zmx w9 (gpS σ) gp) w9 (gmin (wdS σ) w9 (i + 1))) (ddS σ) i0 i1 i2 i3 fo de) := MX_dd hD
                      exact ih134 (i + 1) (by omega) (by omega) H locs hP hD hS ls (lv_sub hl [0, 2, 3] rfl)
                    · refine lv_aload_n hx hb dX6_prepares_162 rfl (lv_at hl 3 rfl) ?_
                      refine va_get (D := D) (ci := 6) (v := .ref (A 8)) (C := RX6) (T := TX6) (N := 17) hx hb hts qX6_prepares_inX6 hown hK hP 0 rfl rfl 9 (by decide) (hts _ qX6_prepares_Cond_fieldLink_RX6_33_NestedCodesModel_gap_I_) (fun _ h9 => h9) rfl dX6_prepares_163 ?_
                      refine lv_iload_n hx hb dX6_prepares_166 rfl (lv_at hl 2 rfl) ?_
                      refine lv_iload_n hx hb dX6_prepares_167 rfl (lv_at hl 0 rfl) ?_
                      refine zs_i hx hb hK hP hD hS 8 (f := fun k9 => nI ((va_up (zmx w9 (gpS σ) gp) w9 (gmin (wdS σ) w9 i)) k9)) rfl (by omega) (by decide) dX6_prepares_168 (fun H locs hP hD9 hS => ?_)
                      rw [zupd] at hP
                      rw [MX_s8] at hP
                      have hP : va_P D vwCl (MX Y A σ hf hn wt wn tm cd (wdS σ) (va_up (zmx w9 (syS σ) sy) w9 (smin (wdS σ) w9 (sy w9) i)) (va_up (va_up (zmx w9 (gpS σ) gp) w9 (gmin (wdS σ) w9 i)) w9 (popc (w9 ^^^ ((wdS σ) i)))) (ddS σ) i0 i1 i2 i3 fo de) H := hP
                      have hD : va_D FA (MX Y A σ hf hn wt wn tm cd (wdS σ) (va_up (zmx w9 (syS σ) sy) w9 (smin (wdS σ) w9 (sy w9) i)) (va_up (va_up (zmx w9 (gpS σ) gp) w9 (gmin (wdS σ) w9 i)) w9 (popc (w9 ^^^ ((wdS σ) i)))) (ddS σ) i0 i1 i2 i3 fo de) := MX_dd hD
                      clear hD9
                      refine lv_aload_n hx hb dX6_prepares_169 rfl (lv_at hl 3 rfl) ?_
                      refine va_get (D := D) (ci := 6) (v := .ref (A 7)) (C := RX6) (T := TX6) (N := 17) hx hb hts qX6_prepares_inX6 hown hK hP 0 rfl rfl 8 (by decide) (hts _ qX6_prepares_Cond_fieldLink_RX6_30_NestedCodesModel_symbol_I_) (fun _ h9 => h9) rfl dX6_prepares_170 ?_
                      refine lv_iload_n hx hb dX6_prepares_173 rfl (lv_at hl 2 rfl) ?_
                      refine lv_iload_n hx hb dX6_prepares_174 rfl (lv_at hl 1 rfl) ?_
                      refine zs_i hx hb hK hP hD hS 7 (f := fun k9 => nI ((va_up (zmx w9 (syS σ) sy) w9 (smin (wdS σ) w9 (sy w9) i)) k9)) rfl (by omega) (by decide) dX6_prepares_175 (fun H locs hP hD9 hS => ?_)
                      rw [zupd] at hP
                      rw [MX_s7] at hP
                      have hP : va_P D vwCl (MX Y A σ hf hn wt wn tm cd (wdS σ) (va_up (va_up (zmx w9 (syS σ) sy) w9 (smin (wdS σ) w9 (sy w9) i)) w9 i) (va_up (va_up (zmx w9 (gpS σ) gp) w9 (gmin (wdS σ) w9 i)) w9 (popc (w9 ^^^ ((wdS σ) i)))) (ddS σ) i0 i1 i2 i3 fo de) H := hP
                      have hD : va_D FA (MX Y A σ hf hn wt wn tm cd (wdS σ) (va_up (va_up (zmx w9 (syS σ) sy) w9 (smin (wdS σ) w9 (sy w9) i)) w9 i) (va_up (va_up (zmx w9 (gpS σ) gp) w9 (gmin (wdS σ) w9 i)) w9 (popc (w9 ^^^ ((wdS σ) i)))) (ddS σ) i0 i1 i2 i3 fo de) := MX_dd hD
                      clear hD9
                      refine lv_iinc (v := (nI (i + 1))) (lv' := [(2, .int (nI (i + 1))), (3, .int (nI (popc (w9 ^^^ ((wdS σ) i))))), (1, .int (nI w9)), (0, .ref (A 0))]) hx hb dX6_prepares_176 hl (k := 1) rfl (zinc _) (by decide) rfl (fun ls hl => ?_)
                      refine lv_goto (tgt := 134) hx hb dX6_prepares_179 (by decide) ?_
                      have e9 : (va_up (va_up (zmx w9 (gpS σ) gp) w9 (gmin (wdS σ) w9 i)) w9 (popc (w9 ^^^ ((wdS σ) i)))) = (va_up (zmx w9 (gpS σ) gp) w9 (gmin (wdS σ) w9 (i + 1))) := (bx_uu _ _ _ _).trans (congrArg (va_up (zmx w9 (gpS σ) gp) w9) (if_pos (by omega)).symm)
                      rw [e9] at hP
                      clear e9
                      have e9 : (va_up (va_up (zmx w9 (syS σ) sy) w9 (smin (wdS σ) w9 (sy w9) i)) w9 i) = (va_up (zmx w9 (syS σ) sy) w9 (smin (wdS σ) w9 (sy w9) (i + 1))) := (bx_uu _ _ _ _).trans (congrArg (va_up (zmx w9 (syS σ) sy) w9) (if_pos (by omega)).symm)
                      rw [e9] at hP
                      clear e9
                      have hP : va_P D vwCl (MX Y A σ hf hn wt wn tm cd (wdS σ) (va_up (zmx w9 (syS σ) sy) w9 (smin (wdS σ) w9 (sy w9) (i + 1))) (va_up (zmx w9 (gpS σ) gp) w9 (gmin (wdS σ) w9 (i + 1))) (ddS σ) i0 i1 i2 i3 fo de) H := hP
                      have hD : va_D FA (MX Y A σ hf hn wt wn tm cd (wdS σ) (va_up (zmx w9 (syS σ) sy) w9 (smin (wdS σ) w9 (sy w9) (i + 1))) (va_up (zmx w9 (gpS σ) gp) w9 (gmin (wdS σ) w9 (i + 1))) (ddS σ) i0 i1 i2 i3 fo de) := MX_dd hD
                      exact ih134 (i + 1) (by omega) (by omega) H locs hP hD hS ls (lv_sub hl [0, 2, 3] rfl)
              have e9 : (zmx w9 (syS σ) sy) = (va_up (zmx w9 (syS σ) sy) w9 (smin (wdS σ) w9 (sy w9) 0)) := zup_self _ _ _ (zmx_out _ _ (Nat.le_refl w9))
              rw [e9] at hP
              clear e9
              have hP : va_P D vwCl (MX Y A σ hf hn wt wn tm cd (wdS σ) (va_up (zmx w9 (syS σ) sy) w9 (smin (wdS σ) w9 (sy w9) 0)) (va_up (zmx w9 (gpS σ) gp) w9 (gmin (wdS σ) w9 0)) (ddS σ) i0 i1 i2 i3 fo de) H := hP
              have hD : va_D FA (MX Y A σ hf hn wt wn tm cd (wdS σ) (va_up (zmx w9 (syS σ) sy) w9 (smin (wdS σ) w9 (sy w9) 0)) (va_up (zmx w9 (gpS σ) gp) w9 (gmin (wdS σ) w9 0)) (ddS σ) i0 i1 i2 i3 fo de) := MX_dd hD
              exact L134 (16 - 0 + 1) 0 (by omega) (Nat.lt_succ_self _) _ _ hP hD hS ls (lv_sub hl [0, 1, 2] rfl)
        have e9 : gp = (zmx 0 (gpS σ) gp) := (zmx_0 _ _).symm
        rw [e9] at hP
        clear e9
        have e9 : sy = (zmx 0 (syS σ) sy) := (zmx_0 _ _).symm
        rw [e9] at hP
        clear e9
        have hP : va_P D vwCl (MX Y A σ hf hn wt wn tm cd (wdS σ) (zmx 0 (syS σ) sy) (zmx 0 (gpS σ) gp) (ddS σ) i0 i1 i2 i3 fo de) H := hP
        have hD : va_D FA (MX Y A σ hf hn wt wn tm cd (wdS σ) (zmx 0 (syS σ) sy) (zmx 0 (gpS σ) gp) (ddS σ) i0 i1 i2 i3 fo de) := MX_dd hD
        exact L112 (2 ^ (σ 2) - 0 + 1) 0 (by omega) (Nat.lt_succ_self _) _ _ hP hD hS ls (lv_sub hl [0, 1] rfl)
      · refine lv_aload_n hx hb dX6_prepares_14 rfl (lv_at hl 1 rfl) ?_
        refine va_get (D := D) (ci := 6) (v := .ref (A 6)) (C := RX6) (T := TX6) (N := 17) hx hb hts qX6_prepares_inX6 hown hK hP 0 rfl rfl 7 (by decide) (hts _ qX6_prepares_Cond_fieldLink_RX6_27_NestedCodesModel_word_I_) (fun _ h9 => h9) rfl dX6_prepares_15 ?_
        refine lv_iload_n hx hb dX6_prepares_18 rfl (lv_at hl 0 rfl) ?_
        refine lv_iconst (v := (nI 0)) hx hb dX6_prepares_19 (by decide) ?_
        refine zs_i hx hb hK hP hD hS 6 (f := fun k9 => nI ((zmx t (wdS σ) wd) k9)) rfl (by omega) (by decide) dX6_prepares_20 (fun H locs hP hD9 hS => ?_)
        rw [zupd] at hP
        rw [MX_s6] at hP
        have hP : va_P D vwCl (MX Y A σ hf hn wt wn tm cd (va_up (zmx t (wdS σ) wd) t 0) sy gp (dmin (wdS σ) 99 t) i0 i1 i2 i3 fo de) H := hP
        have hD : va_D FA (MX Y A σ hf hn wt wn tm cd (va_up (zmx t (wdS σ) wd) t 0) sy gp (dmin (wdS σ) 99 t) i0 i1 i2 i3 fo de) := MX_dd hD
        clear hD9
        refine lv_iconst (v := (nI 0)) hx hb dX6_prepares_21 (by decide) ?_
        refine lv_istore_n (lv' := [(2, .int (nI 0)), (1, .int (nI t)), (0, .ref (A 0))]) hx hb dX6_prepares_22 rfl hl (by decide) rfl (fun ls hl => ?_)
        have L23 : ∀ (n9 : Nat) (i : Nat) (hi : i ≤ 4), 4 - i < n9 → ∀ (H : Heap) (locs : List Loc), va_P D vwCl (MX Y A σ hf hn wt wn tm cd (va_up (zmx t (wdS σ) wd) t (gw (zg σ) t i)) sy gp (dmin (wdS σ) 99 t) i0 i1 i2 i3 fo de) H → va_D FA (MX Y A σ hf hn wt wn tm cd (va_up (zmx t (wdS σ) wd) t (gw (zg σ) t i)) sy gp (dmin (wdS σ) 99 t) i0 i1 i2 i3 fo de) → va_S FA s.heap H locs → ∀ ls : Array Slot, lv_has ls 4 [(2, .int (nI i)), (1, .int (nI t)), (0, .ref (A 0))] → W p l e R s m args below meth c H locs 0 0 Q (F0 m 23 ls []) := by
          intro n9
          induction n9 with
          | zero => intro i hi hn9; exact absurd hn9 (Nat.not_lt_zero _)
          | succ n9 ih9 =>
            have ih23 := ih9
            clear ih9
            intro i hi hn9 H locs hP hD hS ls hl
            refine lv_iload_n hx hb dX6_prepares_23 rfl (lv_at hl 0 rfl) ?_
            refine lv_iconst (v := (nI 4)) hx hb dX6_prepares_24 (by decide) ?_
            refine zn_icmp_ge (tgt := 64)  hx hb dX6_prepares_25 (by decide) (by omega) (by omega) (fun c25 => ?_) (fun c25 => ?_)
            · obtain rfl : i = 4 := by omega
              have e9 : va_up (zmx t (wdS σ) wd) t (gw (zg σ) t 4) = zmx (t + 1) (wdS σ) wd := zmx_up t (wdS σ) wd
              rw [e9] at hP
              clear e9
              have hP : va_P D vwCl (MX Y A σ hf hn wt wn tm cd (zmx (t + 1) (wdS σ) wd) sy gp (dmin (wdS σ) 99 t) i0 i1 i2 i3 fo de) H := hP
              have hD : va_D FA (MX Y A σ hf hn wt wn tm cd (zmx (t + 1) (wdS σ) wd) sy gp (dmin (wdS σ) 99 t) i0 i1 i2 i3 fo de) := MX_dd hD
              refine lv_aload_n hx hb dX6_prepares_64 rfl (lv_at hl 2 rfl) ?_
              refine lv_iload_n hx hb dX6_prepares_65 rfl (lv_at hl 1 rfl) ?_
              have J101 : W p l e R s m args below meth c H locs 0 0 Q (F0 m 101 ls [.int (nI (dmin (wdS σ) 99 (t + 1))), .ref (A 0)]) := by
                refine va_put (D := D) (ci := 6) (v := .int (nI (dmin (wdS σ) 99 (t + 1)))) (ty := .int) (C := RX6) (T := TX6) (N := 17) hx hb hts qX6_prepares_inX6 tyX6 tyX6_ok nmX6 hown hK hP hD hS 0 rfl rfl 10 (by decide) (hts _ qX6_prepares_Cond_fieldLink_RX6_55_NestedCodesModel_least_I_) (fun _ h9 => h9) rfl (by decide +kernel) rfl rfl (Nat.le_of_ble_eq_true rfl) dX6_prepares_101 (fun H locs hP hD9 hS => ?_)
                rw [MX_f_lz] at hP
                have hP : va_P D vwCl (MX Y A σ hf hn wt wn tm cd (zmx (t + 1) (wdS σ) wd) sy gp (dmin (wdS σ) 99 (t + 1)) i0 i1 i2 i3 fo de) H := hP
                have hD : va_D FA (MX Y A σ hf hn wt wn tm cd (zmx (t + 1) (wdS σ) wd) sy gp (dmin (wdS σ) 99 (t + 1)) i0 i1 i2 i3 fo de) := MX_dd hD
                clear hD9
                refine lv_iinc (v := (nI (t + 1))) (lv' := [(1, .int (nI (t + 1))), (2, .int (nI 4)), (0, .ref (A 0))]) hx hb dX6_prepares_104 hl (k := 1) rfl (zinc _) (by decide) rfl (fun ls hl => ?_)
                refine lv_goto (tgt := 8) hx hb dX6_prepares_107 (by decide) ?_
                have hP : va_P D vwCl (MX Y A σ hf hn wt wn tm cd (zmx (t + 1) (wdS σ) wd) sy gp (dmin (wdS σ) 99 (t + 1)) i0 i1 i2 i3 fo de) H := hP
                have hD : va_D FA (MX Y A σ hf hn wt wn tm cd (zmx (t + 1) (wdS σ) wd) sy gp (dmin (wdS σ) 99 (t + 1)) i0 i1 i2 i3 fo de) := MX_dd hD
                exact ih8 (t + 1) (by omega) (by omega) H locs hP hD hS ls (lv_sub hl [0, 2] rfl)
              refine zn_if_le (tgt := 97)  hx hb dX6_prepares_66 (by decide) (by omega) (fun c66 => ?_) (fun c66 => ?_)
              · refine lv_aload_n hx hb dX6_prepares_97 rfl (lv_at hl 2 rfl) ?_
                refine va_get (D := D) (ci := 6) (v := .int (nI (dmin (wdS σ) 99 t))) (C := RX6) (T := TX6) (N := 17) hx hb hts qX6_prepares_inX6 hown hK hP 0 rfl rfl 10 (by decide) (hts _ qX6_prepares_Cond_fieldLink_RX6_55_NestedCodesModel_least_I_) (fun _ h9 => h9) rfl dX6_prepares_98 ?_
                refine zt_i (v := (nI (dmin (wdS σ) 99 (t + 1)))) (congrArg nI (show _ = (if t = 0 then 99 else min (dmin (wdS σ) 99 t) (popc (wdS σ t))) from by first | (rw [if_neg (by omega)]; omega) | (obtain rfl := (show t = 0 by omega); rfl))) ?_
                exact J101
              · refine lv_aload_n hx hb dX6_prepares_69 rfl (lv_at hl 2 rfl) ?_
                refine va_get (D := D) (ci := 6) (v := .ref (A 6)) (C := RX6) (T := TX6) (N := 17) hx hb hts qX6_prepares_inX6 hown hK hP 0 rfl rfl 7 (by decide) (hts _ qX6_prepares_Cond_fieldLink_RX6_27_NestedCodesModel_word_I_) (fun _ h9 => h9) rfl dX6_prepares_70 ?_
                refine lv_iload_n hx hb dX6_prepares_73 rfl (lv_at hl 1 rfl) ?_
                refine za_i hx hb hK hP 6 (f := fun k9 => nI ((zmx (t + 1) (wdS σ) wd) k9)) (v := (nI (wdS σ t))) rfl (by omega) (by decide) dX6_prepares_74 (congrArg nI (zmx_in _ _ (by omega))) ?_
                refine zc_r (va_runS (As := [.int (nI (wdS σ t))]) (rest := [.ref (A 0)]) ⟨hx, hb, hml, hown, hts⟩ (c_X6_ones l D Y  (wdS σ t) (Nat.lt_trans hwt (by decide))) (va_cwS 1 hts gX6_prepares_X6_ones rfl rfl rfl (by decide +kernel) (by rw [hR]; exact ⟨Nat.le_of_ble_eq_true rfl, Nat.le_of_ble_eq_true rfl⟩)) ⟨zB_blind, (zp_r (v := [.int (nI (wdS σ t))]) (fun k q h => absurd h (by simp)) hK hN)⟩ rfl rfl hl.1 rfl (lv_room (Nat.le_of_ble_eq_true rfl)) dX6_prepares_75 ⟨Nat.zero_le _, Nat.zero_le _⟩).run ?_
                have hp75 := popc_le (wdS σ t)
                refine lv_aload_n hx hb dX6_prepares_78 rfl (lv_at hl 2 rfl) ?_
                refine va_get (D := D) (ci := 6) (v := .int (nI (dmin (wdS σ) 99 t))) (C := RX6) (T := TX6) (N := 17) hx hb hts qX6_prepares_inX6 hown hK hP 0 rfl rfl 10 (by decide) (hts _ qX6_prepares_Cond_fieldLink_RX6_55_NestedCodesModel_least_I_) (fun _ h9 => h9) rfl dX6_prepares_79 ?_
                refine zn_icmp_ge (tgt := 97)  hx hb dX6_prepares_82 (by decide) (by omega) (by omega) (fun c82 => ?_) (fun c82 => ?_)
                · refine lv_aload_n hx hb dX6_prepares_97 rfl (lv_at hl 2 rfl) ?_
                  refine va_get (D := D) (ci := 6) (v := .int (nI (dmin (wdS σ) 99 t))) (C := RX6) (T := TX6) (N := 17) hx hb hts qX6_prepares_inX6 hown hK hP 0 rfl rfl 10 (by decide) (hts _ qX6_prepares_Cond_fieldLink_RX6_55_NestedCodesModel_least_I_) (fun _ h9 => h9) rfl dX6_prepares_98 ?_
                  refine zt_i (v := (nI (dmin (wdS σ) 99 (t + 1)))) (congrArg nI (show _ = (if t = 0 then 99 else min (dmin (wdS σ) 99 t) (popc (wdS σ t))) from by first | (rw [if_neg (by omega)]; omega) | (obtain rfl := (show t = 0 by omega); rfl))) ?_
                  exact J101
                · refine lv_aload_n hx hb dX6_prepares_85 rfl (lv_at hl 2 rfl) ?_
                  refine va_get (D := D) (ci := 6) (v := .ref (A 6)) (C := RX6) (T := TX6) (N := 17) hx hb hts qX6_prepares_inX6 hown hK hP 0 rfl rfl 7 (by decide) (hts _ qX6_prepares_Cond_fieldLink_RX6_27_NestedCodesModel_word_I_) (fun _ h9 => h9) rfl dX6_prepares_86 ?_
                  refine lv_iload_n hx hb dX6_prepares_89 rfl (lv_at hl 1 rfl) ?_
                  refine za_i hx hb hK hP 6 (f := fun k9 => nI ((zmx (t + 1) (wdS σ) wd) k9)) (v := (nI (wdS σ t))) rfl (by omega) (by decide) dX6_prepares_90 (congrArg nI (zmx_in _ _ (by omega))) ?_
                  refine zc_r (va_runS (As := [.int (nI (wdS σ t))]) (rest := [.ref (A 0)]) ⟨hx, hb, hml, hown, hts⟩ (c_X6_ones l D Y  (wdS σ t) (Nat.lt_trans hwt (by decide))) (va_cwS 1 hts gX6_prepares_X6_ones rfl rfl rfl (by decide +kernel) (by rw [hR]; exact ⟨Nat.le_of_ble_eq_true rfl, Nat.le_of_ble_eq_true rfl⟩)) ⟨zB_blind, (zp_r (v := [.int (nI (wdS σ t))]) (fun k q h => absurd h (by simp)) hK hN)⟩ rfl rfl hl.1 rfl (lv_room (Nat.le_of_ble_eq_true rfl)) dX6_prepares_91 ⟨Nat.zero_le _, Nat.zero_le _⟩).run ?_
                  have hp91 := popc_le (wdS σ t)
                  refine lv_goto (tgt := 101) hx hb dX6_prepares_94 (by decide) ?_
                  refine zt_i (v := (nI (dmin (wdS σ) 99 (t + 1)))) (congrArg nI (show _ = (if t = 0 then 99 else min (dmin (wdS σ) 99 t) (popc (wdS σ t))) from by first | (rw [if_neg (by omega)]; omega) | (obtain rfl := (show t = 0 by omega); rfl))) ?_
                  exact J101
            · refine lv_aload_n hx hb dX6_prepares_28 rfl (lv_at hl 2 rfl) ?_
              refine va_get (D := D) (ci := 6) (v := .ref (A 6)) (C := RX6) (T := TX6) (N := 17) hx hb hts qX6_prepares_inX6 hown hK hP 0 rfl rfl 7 (by decide) (hts _ qX6_prepares_Cond_fieldLink_RX6_27_NestedCodesModel_word_I_) (fun _ h9 => h9) rfl dX6_prepares_29 ?_
              refine lv_iload_n hx hb dX6_prepares_32 rfl (lv_at hl 1 rfl) ?_
              refine lv_dup2_11 hx hb dX6_prepares_33 rfl rfl ?_
              refine za_i hx hb hK hP 6 (f := fun k9 => nI ((va_up (zmx t (wdS σ) wd) t (gw (zg σ) t i)) k9)) (v := (nI (gw (zg σ) t i))) rfl (by omega) (by decide) dX6_prepares_34 (congrArg nI (zu_eq _ _ _)) ?_
              refine lv_iload_n hx hb dX6_prepares_35 rfl (lv_at hl 1 rfl) ?_
              refine lv_iload_n hx hb dX6_prepares_36 rfl (lv_at hl 0 rfl) ?_
              refine zv_ishr hx hb (v := (nI (t / 2 ^ i))) dX6_prepares_37 (zShr (by omega) (by omega)) ?_
              refine lv_iconst (v := (nI 1)) hx hb dX6_prepares_38 (by decide) ?_
              refine zv_iand hx hb (v := (nI ((t / 2 ^ i) % 2))) dX6_prepares_39 (znand1 _) ?_
              refine lv_iconst (v := (nI 1)) hx hb dX6_prepares_40 (by decide) ?_
              have J56 : W p l e R s m args below meth c H locs 0 0 Q (F0 m 56 ls [.int (nI (if t / 2 ^ i % 2 = 1 then zg σ i else 0)), .int (nI (gw (zg σ) t i)), .int (nI t), .ref (A 6)]) := by
                refine zv_ixor hx hb (v := (nI ((gw (zg σ) t i) ^^^ (if t / 2 ^ i % 2 = 1 then zg σ i else 0)))) dX6_prepares_56 (nx_xor _ _) ?_
                refine zs_i hx hb hK hP hD hS 6 (f := fun k9 => nI ((va_up (zmx t (wdS σ) wd) t (gw (zg σ) t i)) k9)) rfl (by omega) (by decide) dX6_prepares_57 (fun H locs hP hD9 hS => ?_)
                rw [zupd] at hP
                rw [MX_s6] at hP
                have hP : va_P D vwCl (MX Y A σ hf hn wt wn tm cd (va_up (va_up (zmx t (wdS σ) wd) t (gw (zg σ) t i)) t ((gw (zg σ) t i) ^^^ (if t / 2 ^ i % 2 = 1 then zg σ i else 0))) sy gp (dmin (wdS σ) 99 t) i0 i1 i2 i3 fo de) H := hP
                have hD : va_D FA (MX Y A σ hf hn wt wn tm cd (va_up (va_up (zmx t (wdS σ) wd) t (gw (zg σ) t i)) t ((gw (zg σ) t i) ^^^ (if t / 2 ^ i % 2 = 1 then zg σ i else 0))) sy gp (dmin (wdS σ) 99 t) i0 i1 i2 i3 fo de) := MX_dd hD
                clear hD9
                refine lv_iinc (v := (nI (i + 1))) (lv' := [(2, .int (nI (i + 1))), (1, .int (nI t)), (0, .ref (A 0))]) hx hb dX6_prepares_58 hl (k := 0) rfl (zinc _) (by decide) rfl (fun ls hl => ?_)
                refine lv_goto (tgt := 23) hx hb dX6_prepares_61 (by decide) ?_
                have e9 : (va_up (va_up (zmx t (wdS σ) wd) t (gw (zg σ) t i)) t ((gw (zg σ) t i) ^^^ (if t / 2 ^ i % 2 = 1 then zg σ i else 0))) = (va_up (zmx t (wdS σ) wd) t (gw (zg σ) t (i + 1))) := bx_uu _ _ _ _
                rw [e9] at hP
                clear e9
                have hP : va_P D vwCl (MX Y A σ hf hn wt wn tm cd (va_up (zmx t (wdS σ) wd) t (gw (zg σ) t (i + 1))) sy gp (dmin (wdS σ) 99 t) i0 i1 i2 i3 fo de) H := hP
                have hD : va_D FA (MX Y A σ hf hn wt wn tm cd (va_up (zmx t (wdS σ) wd) t (gw (zg σ) t (i + 1))) sy gp (dmin (wdS σ) 99 t) i0 i1 i2 i3 fo de) := MX_dd hD
                exact ih23 (i + 1) (by omega) (by omega) H locs hP hD hS ls (lv_sub hl [0, 1, 2] rfl)
              refine zn_icmp_ne (tgt := 55)  hx hb dX6_prepares_41 (by decide) (by omega) (by omega) (fun c41 => ?_) (fun c41 => ?_)
              · refine lv_iconst (v := (nI 0)) hx hb dX6_prepares_55 (by decide) ?_
                refine zt_i (v := (nI (if t / 2 ^ i % 2 = 1 then zg σ i else 0))) (congrArg nI (by first | rw [if_pos (by omega), zg_lt σ (by omega)] | rw [if_neg (by omega)])) ?_
                exact J56
              · refine lv_aload_n hx hb dX6_prepares_44 rfl (lv_at hl 2 rfl) ?_
                refine va_get (D := D) (ci := 6) (v := .ref (A 1)) (C := RX6) (T := TX6) (N := 17) hx hb hts qX6_prepares_inX6 hown hK hP 0 rfl rfl 0 (by decide) (hts _ qX6_prepares_Cond_fieldLink_RX6_7_NestedCodesModel_d_I_) (fun _ h9 => h9) rfl dX6_prepares_45 ?_
                refine lv_iconst (v := (nI 3)) hx hb dX6_prepares_48 (by decide) ?_
                refine lv_iload_n hx hb dX6_prepares_49 rfl (lv_at hl 0 rfl) ?_
                refine zv_iadd hx hb (v := (nI (3 + i))) dX6_prepares_50 (nI_add _ _) ?_
                refine za_i hx hb hK hP 1 (f := fun k9 => nI (σ k9)) (v := (nI (σ (3 + i)))) rfl (by omega) (by decide) dX6_prepares_51 (rfl) ?_
                refine lv_goto (tgt := 56) hx hb dX6_prepares_52 (by decide) ?_
                refine zt_i (v := (nI (if t / 2 ^ i % 2 = 1 then zg σ i else 0))) (congrArg nI (by first | rw [if_pos (by omega), zg_lt σ (by omega)] | rw [if_neg (by omega)])) ?_
                exact J56
        have hP : va_P D vwCl (MX Y A σ hf hn wt wn tm cd (va_up (zmx t (wdS σ) wd) t (gw (zg σ) t 0)) sy gp (dmin (wdS σ) 99 t) i0 i1 i2 i3 fo de) H := hP
        have hD : va_D FA (MX Y A σ hf hn wt wn tm cd (va_up (zmx t (wdS σ) wd) t (gw (zg σ) t 0)) sy gp (dmin (wdS σ) 99 t) i0 i1 i2 i3 fo de) := MX_dd hD
        exact L23 (4 - 0 + 1) 0 (by omega) (Nat.lt_succ_self _) _ _ hP hD hS ls (lv_sub hl [0, 1, 2] rfl)
  have e9 : wd = (zmx 0 (wdS σ) wd) := (zmx_0 _ _).symm
  rw [e9] at hP
  clear e9
  have hP : va_P D vwCl (MX Y A σ hf hn wt wn tm cd (zmx 0 (wdS σ) wd) sy gp (dmin (wdS σ) 99 0) i0 i1 i2 i3 fo de) H := hP
  have hD : va_D FA (MX Y A σ hf hn wt wn tm cd (zmx 0 (wdS σ) wd) sy gp (dmin (wdS σ) 99 0) i0 i1 i2 i3 fo de) := MX_dd hD
  exact L8 (16 - 0 + 1) 0 (by omega) (Nat.lt_succ_self _) _ _ hP hD hS ls (lv_sub hl [0, 1] rfl)
theorem qX6_isBlock_Cond_fieldLink_RX6_7_NestedCodesModel_d_I_ : Cond.fieldLink RX6 7 "NestedCodesModel" "d" "[I" ∈ wsX6_isBlock := by decide +kernel
theorem qX6_isBlock_inX6 : ∀ w ∈ wsX60, w ∈ wsX6_isBlock := by decide +kernel
set_option maxHeartbeats 4000000 in
set_option maxRecDepth 100000 in
theorem c_X6_isBlock (l : Launch) (D : va_G) (Y : Nat → ClassId) (A : Nat → Nat) (σ : Nat → Nat) (hf : Nat → Nat) (hn : Nat) (wt : Nat → Nat) (wn : Nat) (tm : Nat → Nat) (cd : Nat → Nat) (wd : Nat → Nat) (sy : Nat → Nat) (gp : Nat → Nat) (lz : Nat) (i0 : Nat → Nat) (i1 : Nat → Nat) (i2 : Nat → Nat) (i3 : Nat → Nat) (fo : Int32) (de : Int32) (x : Int32)  (k12 : σ 0 ≤ 12) (k1 : 1 ≤ σ 0) : Met l yX6_isBlock wsX6_isBlock ({ frames := 1, cells := 0, slots := 0, locals := 22 } : Room) (va_Pc [.ref (A 0), .int (x)] (zB D Y (MX Y A σ hf hn wt wn tm cd wd sy gp lz i0 i1 i2 i3 fo de))) (zR (.int (zq (0 ≤ (x).toInt ∧ (x).toInt < ((σ 0 : Nat) : Int))))) 0 0 (fun _ => False) := by
  refine zr_of (cc := cX6_isBlock) (maxL := 2) (ret := (some .boolean)) (by decide) rfl (Nat.le_of_ble_eq_true rfl) ?_
  intro p e s m below meth c R args Q hR hx hb hml hr hlk hown hts hK hN hP hQ ls hl
  have hown : s.vm.findClass RX6 = some m.cls := hown
  have hl : lv_has ls 2 [(0, .ref (A 0)), (1, .int (x))] := hl
  refine lv_iload_n hx hb dX6_isBlock_0 rfl (lv_at hl 1 rfl) ?_
  refine lv_iconst (v := (nI 0)) hx hb dX6_isBlock_1 (by decide) ?_
  refine lv_aload_n hx hb dX6_isBlock_2 rfl (lv_at hl 0 rfl) ?_
  refine va_get (D := D) (ci := 6) (v := .ref (A 1)) (C := RX6) (T := TX6) (N := 17) hx hb hts qX6_isBlock_inX6 hown hK hP 0 rfl rfl 0 (by decide) (hts _ qX6_isBlock_Cond_fieldLink_RX6_7_NestedCodesModel_d_I_) (fun _ h9 => h9) rfl dX6_isBlock_3 ?_
  refine lv_iconst (v := (nI 0)) hx hb dX6_isBlock_6 (by decide) ?_
  refine za_i hx hb hK hP 1 (f := fun k9 => nI (σ k9)) (v := (nI (σ 0))) rfl (by omega) (by decide) dX6_isBlock_7 (rfl) ?_
  refine lv_iconst (v := (nI 1)) hx hb dX6_isBlock_8 (by decide) ?_
  refine zv_isub hx hb (v := (nI ((σ 0) - 1))) dX6_isBlock_9 (pk_sub (by omega)) ?_
  refine zc_r (va_runS (As := [.int (x), .int (nI 0), .int (nI ((σ 0) - 1))]) (rest := []) ⟨hx, hb, hml, hown, hts⟩ (c_X6_in l D Y  x ((nI 0)) ((nI ((σ 0) - 1))) ) (va_cwS 3 hts gX6_isBlock_X6_in rfl rfl rfl (by decide +kernel) (by rw [hR]; exact ⟨Nat.le_of_ble_eq_true rfl, Nat.le_of_ble_eq_true rfl⟩)) ⟨zB_blind, (zp_r (v := [.int (x), .int (nI 0), .int (nI ((σ 0) - 1))]) (fun k q h => absurd h (by simp)) hK hN)⟩ rfl rfl hl.1 rfl (lv_room (Nat.le_of_ble_eq_true rfl)) dX6_isBlock_10 ⟨Nat.zero_le _, Nat.zero_le _⟩).run ?_
  exact zr_z hx hb hr hlk hQ dX6_isBlock_13 (zq_iff (by rw [zt_n (by omega), zt_n (by omega)]; omega)) (by first | exact zq_or _ | decide)
theorem qX6_isLost_Cond_fieldLink_RX6_7_NestedCodesModel_d_I_ : Cond.fieldLink RX6 7 "NestedCodesModel" "d" "[I" ∈ wsX6_isLost := by decide +kernel
theorem qX6_isLost_inX6 : ∀ w ∈ wsX60, w ∈ wsX6_isLost := by decide +kernel
set_option maxHeartbeats 4000000 in
set_option maxRecDepth 100000 in
theorem c_X6_isLost (l : Launch) (D : va_G) (Y : Nat → ClassId) (A : Nat → Nat) (σ : Nat → Nat) (hf : Nat → Nat) (hn : Nat) (wt : Nat → Nat) (wn : Nat) (tm : Nat → Nat) (cd : Nat → Nat) (wd : Nat → Nat) (sy : Nat → Nat) (gp : Nat → Nat) (lz : Nat) (i0 : Nat → Nat) (i1 : Nat → Nat) (i2 : Nat → Nat) (i3 : Nat → Nat) (fo : Int32) (de : Int32) (j : Nat)  (kL : σ 7 < 4096) (hj : j < 12) : Met l yX6_isLost wsX6_isLost ({ frames := 0, cells := 0, slots := 0, locals := 0 } : Room) (va_Pc [.ref (A 0), .int (nI j)] (zB D Y (MX Y A σ hf hn wt wn tm cd wd sy gp lz i0 i1 i2 i3 fo de))) (zR (.int (zq (zL (σ 7) j = 1)))) 0 0 (fun _ => False) := by
  refine zr_of (cc := cX6_isLost) (maxL := 2) (ret := (some .boolean)) (by decide) rfl (Nat.le_of_ble_eq_true rfl) ?_
  intro p e s m below meth c R args Q hR hx hb hml hr hlk hown hts hK hN hP hQ ls hl
  have hown : s.vm.findClass RX6 = some m.cls := hown
  have hl : lv_has ls 2 [(0, .ref (A 0)), (1, .int (nI j))] := hl
  have hz := zL_01 (σ 7) j
  refine lv_aload_n hx hb dX6_isLost_0 rfl (lv_at hl 0 rfl) ?_
  refine va_get (D := D) (ci := 6) (v := .ref (A 1)) (C := RX6) (T := TX6) (N := 17) hx hb hts qX6_isLost_inX6 hown hK hP 0 rfl rfl 0 (by decide) (hts _ qX6_isLost_Cond_fieldLink_RX6_7_NestedCodesModel_d_I_) (fun _ h9 => h9) rfl dX6_isLost_1 ?_
  refine lv_bipush (v := (nI 7)) hx hb dX6_isLost_4 (by decide) ?_
  refine za_i hx hb hK hP 1 (f := fun k9 => nI (σ k9)) (v := (nI (σ 7))) rfl (by omega) (by decide) dX6_isLost_6 (rfl) ?_
  refine lv_iload_n hx hb dX6_isLost_7 rfl (lv_at hl 1 rfl) ?_
  refine zv_ishr hx hb (v := (nI ((σ 7) / 2 ^ j))) dX6_isLost_8 (zShr (by omega) (by omega)) ?_
  refine lv_iconst (v := (nI 1)) hx hb dX6_isLost_9 (by decide) ?_
  refine zv_iand hx hb (v := (nI (zL (σ 7) j))) dX6_isLost_10 (znand1 _) ?_
  refine lv_iconst (v := (nI 1)) hx hb dX6_isLost_11 (by decide) ?_
  have J20 : W p l e R s m args below meth c s.heap [] 0 0 Q (F0 m 20 ls [.int (zq (zL (σ 7) j = 1))]) := by
    exact zr_z hx hb hr hlk hQ dX6_isLost_20 (rfl) (by first | exact zq_or _ | decide)
  refine zn_icmp_ne (tgt := 19)  hx hb dX6_isLost_12 (by decide) (by omega) (by omega) (fun c12 => ?_) (fun c12 => ?_)
  · refine lv_iconst (v := (nI 0)) hx hb dX6_isLost_19 (by decide) ?_
    refine zt_i (v := (zq (zL (σ 7) j = 1))) (by first | exact zq_nt (by omega) | exact zq_nf (by omega)) ?_
    exact J20
  · refine lv_iconst (v := (nI 1)) hx hb dX6_isLost_15 (by decide) ?_
    refine lv_goto (tgt := 20) hx hb dX6_isLost_16 (by decide) ?_
    refine zt_i (v := (zq (zL (σ 7) j = 1))) (by first | exact zq_nt (by omega) | exact zq_nf (by omega)) ?_
    exact J20
theorem qX6_messages_Cond_fieldLink_RX6_7_NestedCodesModel_d_I_ : Cond.fieldLink RX6 7 "NestedCodesModel" "d" "[I" ∈ wsX6_messages := by decide +kernel
theorem qX6_messages_inX6 : ∀ w ∈ wsX60, w ∈ wsX6_messages := by decide +kernel
set_option maxHeartbeats 4000000 in
set_option maxRecDepth 100000 in
theorem c_X6_messages (l : Launch) (D : va_G) (Y : Nat → ClassId) (A : Nat → Nat) (σ : Nat → Nat) (hf : Nat → Nat) (hn : Nat) (wt : Nat → Nat) (wn : Nat) (tm : Nat → Nat) (cd : Nat → Nat) (wd : Nat → Nat) (sy : Nat → Nat) (gp : Nat → Nat) (lz : Nat) (i0 : Nat → Nat) (i1 : Nat → Nat) (i2 : Nat → Nat) (i3 : Nat → Nat) (fo : Int32) (de : Int32)   (kσ : zWF σ) : Met l yX6_messages wsX6_messages ({ frames := 0, cells := 0, slots := 0, locals := 0 } : Room) (va_Pc [.ref (A 0)] (zB D Y (MX Y A σ hf hn wt wn tm cd wd sy gp lz i0 i1 i2 i3 fo de))) (zR (.int (nI (2 ^ (4 * σ 1))))) 0 0 (fun _ => False) := by
  refine zr_of (cc := cX6_messages) (maxL := 1) (ret := (some .int)) (by decide) rfl (Nat.le_of_ble_eq_true rfl) ?_
  intro p e s m below meth c R args Q hR hx hb hml hr hlk hown hts hK hN hP hQ ls hl
  have hown : s.vm.findClass RX6 = some m.cls := hown
  have hl : lv_has ls 1 [(0, .ref (A 0))] := hl
  have kw := kσ
  obtain ⟨n3, n12, d1, d3, dn, b4, b10, gl, lm, sn, wl, wnz⟩ := kw
  have pb := zp_b b10
  have pk9 := zp_k d3
  refine lv_iconst (v := (nI 1)) hx hb dX6_messages_0 (by decide) ?_
  refine lv_iconst (v := (nI 4)) hx hb dX6_messages_1 (by decide) ?_
  refine lv_aload_n hx hb dX6_messages_2 rfl (lv_at hl 0 rfl) ?_
  refine va_get (D := D) (ci := 6) (v := .ref (A 1)) (C := RX6) (T := TX6) (N := 17) hx hb hts qX6_messages_inX6 hown hK hP 0 rfl rfl 0 (by decide) (hts _ qX6_messages_Cond_fieldLink_RX6_7_NestedCodesModel_d_I_) (fun _ h9 => h9) rfl dX6_messages_3 ?_
  refine lv_iconst (v := (nI 1)) hx hb dX6_messages_6 (by decide) ?_
  refine za_i hx hb hK hP 1 (f := fun k9 => nI (σ k9)) (v := (nI (σ 1))) rfl (by omega) (by decide) dX6_messages_7 (rfl) ?_
  refine zv_imul hx hb (v := (nI (4 * (σ 1)))) dX6_messages_8 (pk_mul _ _) ?_
  refine zv_ishl hx hb (v := (nI (2 ^ (4 * σ 1)))) dX6_messages_9 (by rw [zShl (by omega) (by omega), Nat.one_mul]) ?_
  exact zr_i hx hb hr hlk hQ dX6_messages_10 (rfl)
set_option maxHeartbeats 4000000 in
set_option maxRecDepth 100000 in
theorem c_X6_isMessage (l : Launch) (D : va_G) (Y : Nat → ClassId) (A : Nat → Nat) (σ : Nat → Nat) (hf : Nat → Nat) (hn : Nat) (wt : Nat → Nat) (wn : Nat) (tm : Nat → Nat) (cd : Nat → Nat) (wd : Nat → Nat) (sy : Nat → Nat) (gp : Nat → Nat) (lz : Nat) (i0 : Nat → Nat) (i1 : Nat → Nat) (i2 : Nat → Nat) (i3 : Nat → Nat) (fo : Int32) (de : Int32) (x : Int32)  (kσ : zWF σ) : Met l yX6_isMessage wsX6_isMessage ({ frames := 1, cells := 0, slots := 0, locals := 22 } : Room) (va_Pc [.ref (A 0), .int (x)] (zB D Y (MX Y A σ hf hn wt wn tm cd wd sy gp lz i0 i1 i2 i3 fo de))) (zR (.int (zq (0 ≤ (x).toInt ∧ (x).toInt < ((2 ^ (4 * σ 1) : Nat) : Int))))) 0 0 (fun _ => False) := by
  refine zr_of (cc := cX6_isMessage) (maxL := 2) (ret := (some .boolean)) (by decide) rfl (Nat.le_of_ble_eq_true rfl) ?_
  intro p e s m below meth c R args Q hR hx hb hml hr hlk hown hts hK hN hP hQ ls hl
  have hown : s.vm.findClass RX6 = some m.cls := hown
  have hl : lv_has ls 2 [(0, .ref (A 0)), (1, .int (x))] := hl
  have kw := kσ
  obtain ⟨n3, n12, d1, d3, dn, b4, b10, gl, lm, sn, wl, wnz⟩ := kw
  have pb := zp_b b10
  have pk9 := zp_k d3
  have p1 := Nat.two_pow_pos (4 * σ 1)
  refine lv_iload_n hx hb dX6_isMessage_0 rfl (lv_at hl 1 rfl) ?_
  refine lv_iconst (v := (nI 0)) hx hb dX6_isMessage_1 (by decide) ?_
  refine lv_aload_n hx hb dX6_isMessage_2 rfl (lv_at hl 0 rfl) ?_
  refine zc_r (va_runV (As := []) (rest := [.int (nI 0), .int (x)]) ⟨hx, hb, hml, hown, hts⟩ (c_X6_messages l D Y A σ hf hn wt wn tm cd wd sy gp lz i0 i1 i2 i3 fo de  kσ) (cwV 0 hts gX6_isMessage_X6_messages rfl rfl rfl (by decide +kernel) (by rw [hR]; exact ⟨Nat.le_of_ble_eq_true rfl, Nat.le_of_ble_eq_true rfl⟩)) ⟨zB_blind, va_recv hK hP (ci := 6) (q0 := 0) rfl rfl, zp_r hP hK hN⟩ rfl rfl hl.1 rfl (lv_room (Nat.le_of_ble_eq_true rfl)) dX6_isMessage_3 ⟨Nat.zero_le _, Nat.zero_le _⟩).run ?_
  refine lv_iconst (v := (nI 1)) hx hb dX6_isMessage_6 (by decide) ?_
  refine zv_isub hx hb (v := (nI ((2 ^ (4 * σ 1)) - 1))) dX6_isMessage_7 (pk_sub (by omega)) ?_
  refine zc_r (va_runS (As := [.int (x), .int (nI 0), .int (nI ((2 ^ (4 * σ 1)) - 1))]) (rest := []) ⟨hx, hb, hml, hown, hts⟩ (c_X6_in l D Y  x ((nI 0)) ((nI ((2 ^ (4 * σ 1)) - 1))) ) (va_cwS 3 hts gX6_isMessage_X6_in rfl rfl rfl (by decide +kernel) (by rw [hR]; exact ⟨Nat.le_of_ble_eq_true rfl, Nat.le_of_ble_eq_true rfl⟩)) ⟨zB_blind, (zp_r (v := [.int (x), .int (nI 0), .int (nI ((2 ^ (4 * σ 1)) - 1))]) (fun k q h => absurd h (by simp)) hK hN)⟩ rfl rfl hl.1 rfl (lv_room (Nat.le_of_ble_eq_true rfl)) dX6_isMessage_8 ⟨Nat.zero_le _, Nat.zero_le _⟩).run ?_
  exact zr_z hx hb hr hlk hQ dX6_isMessage_11 (zq_iff (by rw [zt_n (by omega), zt_n (by omega)]; omega)) (by first | exact zq_or _ | decide)
theorem qX6_distance_Cond_fieldLink_RX6_7_NestedCodesModel_d_I_ : Cond.fieldLink RX6 7 "NestedCodesModel" "d" "[I" ∈ wsX6_distance := by decide +kernel
theorem qX6_distance_inX6 : ∀ w ∈ wsX60, w ∈ wsX6_distance := by decide +kernel
set_option maxHeartbeats 4000000 in
set_option maxRecDepth 100000 in
theorem c_X6_distance (l : Launch) (D : va_G) (Y : Nat → ClassId) (A : Nat → Nat) (σ : Nat → Nat) (hf : Nat → Nat) (hn : Nat) (wt : Nat → Nat) (wn : Nat) (tm : Nat → Nat) (cd : Nat → Nat) (wd : Nat → Nat) (sy : Nat → Nat) (gp : Nat → Nat) (lz : Nat) (i0 : Nat → Nat) (i1 : Nat → Nat) (i2 : Nat → Nat) (i3 : Nat → Nat) (fo : Int32) (de : Int32)   (kσ : zWF σ) : Met l yX6_distance wsX6_distance ({ frames := 0, cells := 0, slots := 0, locals := 0 } : Room) (va_Pc [.ref (A 0)] (zB D Y (MX Y A σ hf hn wt wn tm cd wd sy gp lz i0 i1 i2 i3 fo de))) (zR (.int (nI (σ 0 - σ 1 + 1)))) 0 0 (fun _ => False) := by
  refine zr_of (cc := cX6_distance) (maxL := 1) (ret := (some .int)) (by decide) rfl (Nat.le_of_ble_eq_true rfl) ?_
  intro p e s m below meth c R args Q hR hx hb hml hr hlk hown hts hK hN hP hQ ls hl
  have hown : s.vm.findClass RX6 = some m.cls := hown
  have hl : lv_has ls 1 [(0, .ref (A 0))] := hl
  have kw := kσ
  obtain ⟨n3, n12, d1, d3, dn, b4, b10, gl, lm, sn, wl, wnz⟩ := kw
  have pb := zp_b b10
  have pk9 := zp_k d3
  refine lv_aload_n hx hb dX6_distance_0 rfl (lv_at hl 0 rfl) ?_
  refine va_get (D := D) (ci := 6) (v := .ref (A 1)) (C := RX6) (T := TX6) (N := 17) hx hb hts qX6_distance_inX6 hown hK hP 0 rfl rfl 0 (by decide) (hts _ qX6_distance_Cond_fieldLink_RX6_7_NestedCodesModel_d_I_) (fun _ h9 => h9) rfl dX6_distance_1 ?_
  refine lv_iconst (v := (nI 0)) hx hb dX6_distance_4 (by decide) ?_
  refine za_i hx hb hK hP 1 (f := fun k9 => nI (σ k9)) (v := (nI (σ 0))) rfl (by omega) (by decide) dX6_distance_5 (rfl) ?_
  refine lv_aload_n hx hb dX6_distance_6 rfl (lv_at hl 0 rfl) ?_
  refine va_get (D := D) (ci := 6) (v := .ref (A 1)) (C := RX6) (T := TX6) (N := 17) hx hb hts qX6_distance_inX6 hown hK hP 0 rfl rfl 0 (by decide) (hts _ qX6_distance_Cond_fieldLink_RX6_7_NestedCodesModel_d_I_) (fun _ h9 => h9) rfl dX6_distance_7 ?_
  refine lv_iconst (v := (nI 1)) hx hb dX6_distance_10 (by decide) ?_
  refine za_i hx hb hK hP 1 (f := fun k9 => nI (σ k9)) (v := (nI (σ 1))) rfl (by omega) (by decide) dX6_distance_11 (rfl) ?_
  refine zv_isub hx hb (v := (nI ((σ 0) - (σ 1)))) dX6_distance_12 (pk_sub (by omega)) ?_
  refine lv_iconst (v := (nI 1)) hx hb dX6_distance_13 (by decide) ?_
  refine zv_iadd hx hb (v := (nI (((σ 0) - (σ 1)) + 1))) dX6_distance_14 (nI_add _ _) ?_
  exact zr_i hx hb hr hlk hQ dX6_distance_15 (rfl)
theorem qX6_records_Cond_fieldLink_RX6_71_NestedCodesModel_states_I_ : Cond.fieldLink RX6 71 "NestedCodesModel" "states" "I" ∈ wsX6_records := by decide +kernel
theorem qX6_records_inX6 : ∀ w ∈ wsX60, w ∈ wsX6_records := by decide +kernel
theorem qX6_records_Cond_fieldLink_RX6_13_NestedCodesModel_was_I_ : Cond.fieldLink RX6 13 "NestedCodesModel" "was" "[I" ∈ wsX6_records := by decide +kernel
theorem qX6_records_Cond_fieldLink_RX6_7_NestedCodesModel_d_I_ : Cond.fieldLink RX6 7 "NestedCodesModel" "d" "[I" ∈ wsX6_records := by decide +kernel
set_option maxHeartbeats 4000000 in
set_option maxRecDepth 100000 in
theorem c_X6_records (l : Launch) (D : va_G) (Y : Nat → ClassId) (A : Nat → Nat) (σ : Nat → Nat) (hf : Nat → Nat) (hn : Nat) (wt : Nat → Nat) (wn : Nat) (tm : Nat → Nat) (cd : Nat → Nat) (wd : Nat → Nat) (sy : Nat → Nat) (gp : Nat → Nat) (lz : Nat) (i0 : Nat → Nat) (i1 : Nat → Nat) (i2 : Nat → Nat) (i3 : Nat → Nat) (fo : Int32) (de : Int32)   (khn : hn ≤ 6) : Met l yX6_records wsX6_records ({ frames := 0, cells := 0, slots := 0, locals := 0 } : Room) (va_Pc [.ref (A 0)] (zBw D Y (MX Y A σ hf hn wt wn tm cd wd sy gp lz i0 i1 i2 i3 fo de))) (zW none D (MX Y A σ (recF hf hn σ) (recN hn) wt wn tm cd wd sy gp lz i0 i1 i2 i3 fo de) (zA (MX Y A σ hf hn wt wn tm cd wd sy gp lz i0 i1 i2 i3 fo de))) 0 0 (zA (MX Y A σ hf hn wt wn tm cd wd sy gp lz i0 i1 i2 i3 fo de)) := by
  refine zw_of (cc := cX6_records) (maxL := 2) (ret := none) (by decide) rfl (Nat.le_of_ble_eq_true rfl) ?_
  intro p e s m below meth c R args Q FA hR hx hb hml hr hlk hown hts hK hN hQ hP hD hS ls hl
  have hown : s.vm.findClass RX6 = some m.cls := hown
  have hl : lv_has ls 2 [(0, .ref (A 0))] := hl
  have hS := hS
  suffices hgo : ∀ (H : Heap) (locs : List Loc), va_P D vwCl (MX Y A σ hf hn wt wn tm cd wd sy gp lz i0 i1 i2 i3 fo de) H → va_S FA s.heap H locs → W p l e R s m args below meth c H locs 0 0 Q (F0 m 0 ls []) from hgo _ _ hP hS
  clear hP hS
  intro H locs hP hS
  refine lv_aload_n hx hb dX6_records_0 rfl (lv_at hl 0 rfl) ?_
  refine va_get (D := D) (ci := 6) (v := .int (nI hn)) (C := RX6) (T := TX6) (N := 17) hx hb hts qX6_records_inX6 hown hK hP 0 rfl rfl 2 (by decide) (hts _ qX6_records_Cond_fieldLink_RX6_71_NestedCodesModel_states_I_) (fun _ h9 => h9) rfl dX6_records_1 ?_
  refine lv_bipush (v := (nI 6)) hx hb dX6_records_4 (by decide) ?_
  refine zn_icmp_ne (tgt := 48)  hx hb dX6_records_6 (by decide) (by omega) (by omega) (fun c6 => ?_) (fun c6 => ?_)
  · have hP : va_P D vwCl (MX Y A σ hf hn wt wn tm cd wd sy gp lz i0 i1 i2 i3 fo de) H := hP
    have hD : va_D FA (MX Y A σ hf hn wt wn tm cd wd sy gp lz i0 i1 i2 i3 fo de) := MX_dd hD
    refine lv_iconst (v := (nI 0)) hx hb dX6_records_48 (by decide) ?_
    refine lv_istore_n (lv' := [(1, .int (nI 0)), (0, .ref (A 0))]) hx hb dX6_records_49 rfl hl (by decide) rfl (fun ls hl => ?_)
    have L50 : ∀ (n9 : Nat) (i : Nat) (hi : i ≤ 21), 21 - i < n9 → ∀ (H : Heap) (locs : List Loc), va_P D vwCl (MX Y A σ (cpf hn i σ hf) hn wt wn tm cd wd sy gp lz i0 i1 i2 i3 fo de) H → va_D FA (MX Y A σ (cpf hn i σ hf) hn wt wn tm cd wd sy gp lz i0 i1 i2 i3 fo de) → va_S FA s.heap H locs → ∀ ls : Array Slot, lv_has ls 2 [(1, .int (nI i)), (0, .ref (A 0))] → W p l e R s m args below meth c H locs 0 0 Q (F0 m 50 ls []) := by
      intro n9
      induction n9 with
      | zero => intro i hi hn9; exact absurd hn9 (Nat.not_lt_zero _)
      | succ n9 ih9 =>
        have ih50 := ih9
        clear ih9
        intro i hi hn9 H locs hP hD hS ls hl
        refine lv_iload_n hx hb dX6_records_50 rfl (lv_at hl 0 rfl) ?_
        refine lv_bipush (v := (nI 21)) hx hb dX6_records_51 (by decide) ?_
        refine zn_icmp_ge (tgt := 82)  hx hb dX6_records_53 (by decide) (by omega) (by omega) (fun c53 => ?_) (fun c53 => ?_)
        · obtain rfl : i = 21 := by omega
          refine lv_aload_n hx hb dX6_records_82 rfl (lv_at hl 1 rfl) ?_
          refine lv_dup hx hb dX6_records_83 rfl ?_
          refine va_get (D := D) (ci := 6) (v := .int (nI hn)) (C := RX6) (T := TX6) (N := 17) hx hb hts qX6_records_inX6 hown hK hP 0 rfl rfl 2 (by decide) (hts _ qX6_records_Cond_fieldLink_RX6_71_NestedCodesModel_states_I_) (fun _ h9 => h9) rfl dX6_records_84 ?_
          refine lv_iconst (v := (nI 1)) hx hb dX6_records_87 (by decide) ?_
          refine zv_iadd hx hb (v := (nI (hn + 1))) dX6_records_88 (nI_add _ _) ?_
          refine va_put (D := D) (ci := 6) (v := .int (nI (hn + 1))) (ty := .int) (C := RX6) (T := TX6) (N := 17) hx hb hts qX6_records_inX6 tyX6 tyX6_ok nmX6 hown hK hP hD hS 0 rfl rfl 2 (by decide) (hts _ qX6_records_Cond_fieldLink_RX6_71_NestedCodesModel_states_I_) (fun _ h9 => h9) rfl (by decide +kernel) rfl rfl (Nat.le_of_ble_eq_true rfl) dX6_records_89 (fun H locs hP hD9 hS => ?_)
          rw [MX_f_hn] at hP
          have hP : va_P D vwCl (MX Y A σ (cpf hn 21 σ hf) (hn + 1) wt wn tm cd wd sy gp lz i0 i1 i2 i3 fo de) H := hP
          have hD : va_D FA (MX Y A σ (cpf hn 21 σ hf) (hn + 1) wt wn tm cd wd sy gp lz i0 i1 i2 i3 fo de) := MX_dd hD
          clear hD9
          exact zw_v hx hb hr hlk hQ hS dX6_records_92 ((by rw [show recN hn = hn + 1 from if_neg (by omega), ← recF_n (by omega)]; exact hP))
        · refine lv_aload_n hx hb dX6_records_56 rfl (lv_at hl 1 rfl) ?_
          refine va_get (D := D) (ci := 6) (v := .ref (A 2)) (C := RX6) (T := TX6) (N := 17) hx hb hts qX6_records_inX6 hown hK hP 0 rfl rfl 1 (by decide) (hts _ qX6_records_Cond_fieldLink_RX6_13_NestedCodesModel_was_I_) (fun _ h9 => h9) rfl dX6_records_57 ?_
          refine lv_bipush (v := (nI 21)) hx hb dX6_records_60 (by decide) ?_
          refine lv_aload_n hx hb dX6_records_62 rfl (lv_at hl 1 rfl) ?_
          refine va_get (D := D) (ci := 6) (v := .int (nI hn)) (C := RX6) (T := TX6) (N := 17) hx hb hts qX6_records_inX6 hown hK hP 0 rfl rfl 2 (by decide) (hts _ qX6_records_Cond_fieldLink_RX6_71_NestedCodesModel_states_I_) (fun _ h9 => h9) rfl dX6_records_63 ?_
          refine zv_imul hx hb (v := (nI (21 * hn))) dX6_records_66 (pk_mul _ _) ?_
          refine lv_iload_n hx hb dX6_records_67 rfl (lv_at hl 0 rfl) ?_
          refine zv_iadd hx hb (v := (nI ((21 * hn) + i))) dX6_records_68 (nI_add _ _) ?_
          refine lv_aload_n hx hb dX6_records_69 rfl (lv_at hl 1 rfl) ?_
          refine va_get (D := D) (ci := 6) (v := .ref (A 1)) (C := RX6) (T := TX6) (N := 17) hx hb hts qX6_records_inX6 hown hK hP 0 rfl rfl 0 (by decide) (hts _ qX6_records_Cond_fieldLink_RX6_7_NestedCodesModel_d_I_) (fun _ h9 => h9) rfl dX6_records_70 ?_
          refine lv_iload_n hx hb dX6_records_73 rfl (lv_at hl 0 rfl) ?_
          refine za_i hx hb hK hP 1 (f := fun k9 => nI (σ k9)) (v := (nI (σ i))) rfl (by omega) (by decide) dX6_records_74 (rfl) ?_
          refine zs_i hx hb hK hP hD hS 2 (f := fun k9 => nI ((cpf hn i σ hf) k9)) rfl (by omega) (by decide) dX6_records_75 (fun H locs hP hD9 hS => ?_)
          rw [zupd] at hP
          rw [MX_s2] at hP
          have hP : va_P D vwCl (MX Y A σ (va_up (cpf hn i σ hf) ((21 * hn) + i) (σ i)) hn wt wn tm cd wd sy gp lz i0 i1 i2 i3 fo de) H := hP
          have hD : va_D FA (MX Y A σ (va_up (cpf hn i σ hf) ((21 * hn) + i) (σ i)) hn wt wn tm cd wd sy gp lz i0 i1 i2 i3 fo de) := MX_dd hD
          clear hD9
          refine lv_iinc (v := (nI (i + 1))) (lv' := [(1, .int (nI (i + 1))), (0, .ref (A 0))]) hx hb dX6_records_76 hl (k := 0) rfl (zinc _) (by decide) rfl (fun ls hl => ?_)
          refine lv_goto (tgt := 50) hx hb dX6_records_79 (by decide) ?_
          have e9 : (va_up (cpf hn i σ hf) ((21 * hn) + i) (σ i)) = (cpf hn (i + 1) σ hf) := cpf_up hn i σ hf
          rw [e9] at hP
          clear e9
          have hP : va_P D vwCl (MX Y A σ (cpf hn (i + 1) σ hf) hn wt wn tm cd wd sy gp lz i0 i1 i2 i3 fo de) H := hP
          have hD : va_D FA (MX Y A σ (cpf hn (i + 1) σ hf) hn wt wn tm cd wd sy gp lz i0 i1 i2 i3 fo de) := MX_dd hD
          exact ih50 (i + 1) (by omega) (by omega) H locs hP hD hS ls (lv_sub hl [0, 1] rfl)
    have hP : va_P D vwCl (MX Y A σ (cpf hn 0 σ hf) hn wt wn tm cd wd sy gp lz i0 i1 i2 i3 fo de) H := by rw [← cpf_0 hn σ hf]; exact hP
    have hP : va_P D vwCl (MX Y A σ (cpf hn 0 σ hf) hn wt wn tm cd wd sy gp lz i0 i1 i2 i3 fo de) H := hP
    have hD : va_D FA (MX Y A σ (cpf hn 0 σ hf) hn wt wn tm cd wd sy gp lz i0 i1 i2 i3 fo de) := MX_dd hD
    exact L50 (21 - 0 + 1) 0 (by omega) (Nat.lt_succ_self _) _ _ hP hD hS ls (lv_sub hl [0, 1] rfl)
  · refine lv_iconst (v := (nI 0)) hx hb dX6_records_9 (by decide) ?_
    refine lv_istore_n (lv' := [(1, .int (nI 0)), (0, .ref (A 0))]) hx hb dX6_records_10 rfl hl (by decide) rfl (fun ls hl => ?_)
    have L11 : ∀ (n9 : Nat) (i : Nat) (hi : i ≤ 105), 105 - i < n9 → ∀ (H : Heap) (locs : List Loc), va_P D vwCl (MX Y A σ (shf i hf) hn wt wn tm cd wd sy gp lz i0 i1 i2 i3 fo de) H → va_D FA (MX Y A σ (shf i hf) hn wt wn tm cd wd sy gp lz i0 i1 i2 i3 fo de) → va_S FA s.heap H locs → ∀ ls : Array Slot, lv_has ls 2 [(1, .int (nI i)), (0, .ref (A 0))] → W p l e R s m args below meth c H locs 0 0 Q (F0 m 11 ls []) := by
      intro n9
      induction n9 with
      | zero => intro i hi hn9; exact absurd hn9 (Nat.not_lt_zero _)
      | succ n9 ih9 =>
        have ih11 := ih9
        clear ih9
        intro i hi hn9 H locs hP hD hS ls hl
        refine lv_iload_n hx hb dX6_records_11 rfl (lv_at hl 0 rfl) ?_
        refine lv_bipush (v := (nI 105)) hx hb dX6_records_12 (by decide) ?_
        refine zn_icmp_ge (tgt := 38)  hx hb dX6_records_14 (by decide) (by omega) (by omega) (fun c14 => ?_) (fun c14 => ?_)
        · obtain rfl : i = 105 := by omega
          refine lv_aload_n hx hb dX6_records_38 rfl (lv_at hl 1 rfl) ?_
          refine lv_dup hx hb dX6_records_39 rfl ?_
          refine va_get (D := D) (ci := 6) (v := .int (nI hn)) (C := RX6) (T := TX6) (N := 17) hx hb hts qX6_records_inX6 hown hK hP 0 rfl rfl 2 (by decide) (hts _ qX6_records_Cond_fieldLink_RX6_71_NestedCodesModel_states_I_) (fun _ h9 => h9) rfl dX6_records_40 ?_
          refine lv_iconst (v := (nI 1)) hx hb dX6_records_43 (by decide) ?_
          refine zv_isub hx hb (v := (nI (hn - 1))) dX6_records_44 (pk_sub (by omega)) ?_
          refine va_put (D := D) (ci := 6) (v := .int (nI (hn - 1))) (ty := .int) (C := RX6) (T := TX6) (N := 17) hx hb hts qX6_records_inX6 tyX6 tyX6_ok nmX6 hown hK hP hD hS 0 rfl rfl 2 (by decide) (hts _ qX6_records_Cond_fieldLink_RX6_71_NestedCodesModel_states_I_) (fun _ h9 => h9) rfl (by decide +kernel) rfl rfl (Nat.le_of_ble_eq_true rfl) dX6_records_45 (fun H locs hP hD9 hS => ?_)
          rw [MX_f_hn] at hP
          have hP : va_P D vwCl (MX Y A σ (shf 105 hf) (hn - 1) wt wn tm cd wd sy gp lz i0 i1 i2 i3 fo de) H := hP
          have hD : va_D FA (MX Y A σ (shf 105 hf) (hn - 1) wt wn tm cd wd sy gp lz i0 i1 i2 i3 fo de) := MX_dd hD
          clear hD9
          have e9 : hn - 1 = 5 := by omega
          rw [e9] at hP
          clear e9
          have hP : va_P D vwCl (MX Y A σ (shf 105 hf) 5 wt wn tm cd wd sy gp lz i0 i1 i2 i3 fo de) H := hP
          have hD : va_D FA (MX Y A σ (shf 105 hf) 5 wt wn tm cd wd sy gp lz i0 i1 i2 i3 fo de) := MX_dd hD
          refine lv_iconst (v := (nI 0)) hx hb dX6_records_48 (by decide) ?_
          refine lv_istore_n (lv' := [(1, .int (nI 0)), (0, .ref (A 0))]) hx hb dX6_records_49 rfl hl (by decide) rfl (fun ls hl => ?_)
          have L50 : ∀ (n9 : Nat) (i : Nat) (hi : i ≤ 21), 21 - i < n9 → ∀ (H : Heap) (locs : List Loc), va_P D vwCl (MX Y A σ (cpf 5 i σ (shf 105 hf)) 5 wt wn tm cd wd sy gp lz i0 i1 i2 i3 fo de) H → va_D FA (MX Y A σ (cpf 5 i σ (shf 105 hf)) 5 wt wn tm cd wd sy gp lz i0 i1 i2 i3 fo de) → va_S FA s.heap H locs → ∀ ls : Array Slot, lv_has ls 2 [(1, .int (nI i)), (0, .ref (A 0))] → W p l e R s m args below meth c H locs 0 0 Q (F0 m 50 ls []) := by
            intro n9
            induction n9 with
            | zero => intro i hi hn9; exact absurd hn9 (Nat.not_lt_zero _)
            | succ n9 ih9 =>
              have ih50 := ih9
              clear ih9
              intro i hi hn9 H locs hP hD hS ls hl
              refine lv_iload_n hx hb dX6_records_50 rfl (lv_at hl 0 rfl) ?_
              refine lv_bipush (v := (nI 21)) hx hb dX6_records_51 (by decide) ?_
              refine zn_icmp_ge (tgt := 82)  hx hb dX6_records_53 (by decide) (by omega) (by omega) (fun c53 => ?_) (fun c53 => ?_)
              · obtain rfl : i = 21 := by omega
                refine lv_aload_n hx hb dX6_records_82 rfl (lv_at hl 1 rfl) ?_
                refine lv_dup hx hb dX6_records_83 rfl ?_
                refine va_get (D := D) (ci := 6) (v := .int (nI 5)) (C := RX6) (T := TX6) (N := 17) hx hb hts qX6_records_inX6 hown hK hP 0 rfl rfl 2 (by decide) (hts _ qX6_records_Cond_fieldLink_RX6_71_NestedCodesModel_states_I_) (fun _ h9 => h9) rfl dX6_records_84 ?_
                refine lv_iconst (v := (nI 1)) hx hb dX6_records_87 (by decide) ?_
                refine zv_iadd hx hb (v := (nI 6)) dX6_records_88 (by decide) ?_
                refine va_put (D := D) (ci := 6) (v := .int (nI 6)) (ty := .int) (C := RX6) (T := TX6) (N := 17) hx hb hts qX6_records_inX6 tyX6 tyX6_ok nmX6 hown hK hP hD hS 0 rfl rfl 2 (by decide) (hts _ qX6_records_Cond_fieldLink_RX6_71_NestedCodesModel_states_I_) (fun _ h9 => h9) rfl (by decide +kernel) rfl rfl (Nat.le_of_ble_eq_true rfl) dX6_records_89 (fun H locs hP hD9 hS => ?_)
                rw [MX_f_hn] at hP
                have hP : va_P D vwCl (MX Y A σ (cpf 5 21 σ (shf 105 hf)) 6 wt wn tm cd wd sy gp lz i0 i1 i2 i3 fo de) H := hP
                have hD : va_D FA (MX Y A σ (cpf 5 21 σ (shf 105 hf)) 6 wt wn tm cd wd sy gp lz i0 i1 i2 i3 fo de) := MX_dd hD
                clear hD9
                exact zw_v hx hb hr hlk hQ hS dX6_records_92 ((by rw [show recN hn = 5 + 1 from if_pos (by omega)]; exact zP_arrI 2 (fun j => nI (recF hf hn σ j)) hP rfl (recF_6 (by omega))))
              · refine lv_aload_n hx hb dX6_records_56 rfl (lv_at hl 1 rfl) ?_
                refine va_get (D := D) (ci := 6) (v := .ref (A 2)) (C := RX6) (T := TX6) (N := 17) hx hb hts qX6_records_inX6 hown hK hP 0 rfl rfl 1 (by decide) (hts _ qX6_records_Cond_fieldLink_RX6_13_NestedCodesModel_was_I_) (fun _ h9 => h9) rfl dX6_records_57 ?_
                refine lv_bipush (v := (nI 21)) hx hb dX6_records_60 (by decide) ?_
                refine lv_aload_n hx hb dX6_records_62 rfl (lv_at hl 1 rfl) ?_
                refine va_get (D := D) (ci := 6) (v := .int (nI 5)) (C := RX6) (T := TX6) (N := 17) hx hb hts qX6_records_inX6 hown hK hP 0 rfl rfl 2 (by decide) (hts _ qX6_records_Cond_fieldLink_RX6_71_NestedCodesModel_states_I_) (fun _ h9 => h9) rfl dX6_records_63 ?_
                refine zv_imul hx hb (v := (nI 105)) dX6_records_66 (by decide) ?_
                refine lv_iload_n hx hb dX6_records_67 rfl (lv_at hl 0 rfl) ?_
                refine zv_iadd hx hb (v := (nI (105 + i))) dX6_records_68 (nI_add _ _) ?_
                refine lv_aload_n hx hb dX6_records_69 rfl (lv_at hl 1 rfl) ?_
                refine va_get (D := D) (ci := 6) (v := .ref (A 1)) (C := RX6) (T := TX6) (N := 17) hx hb hts qX6_records_inX6 hown hK hP 0 rfl rfl 0 (by decide) (hts _ qX6_records_Cond_fieldLink_RX6_7_NestedCodesModel_d_I_) (fun _ h9 => h9) rfl dX6_records_70 ?_
                refine lv_iload_n hx hb dX6_records_73 rfl (lv_at hl 0 rfl) ?_
                refine za_i hx hb hK hP 1 (f := fun k9 => nI (σ k9)) (v := (nI (σ i))) rfl (by omega) (by decide) dX6_records_74 (rfl) ?_
                refine zs_i hx hb hK hP hD hS 2 (f := fun k9 => nI ((cpf 5 i σ (shf 105 hf)) k9)) rfl (by omega) (by decide) dX6_records_75 (fun H locs hP hD9 hS => ?_)
                rw [zupd] at hP
                rw [MX_s2] at hP
                have hP : va_P D vwCl (MX Y A σ (va_up (cpf 5 i σ (shf 105 hf)) (105 + i) (σ i)) 5 wt wn tm cd wd sy gp lz i0 i1 i2 i3 fo de) H := hP
                have hD : va_D FA (MX Y A σ (va_up (cpf 5 i σ (shf 105 hf)) (105 + i) (σ i)) 5 wt wn tm cd wd sy gp lz i0 i1 i2 i3 fo de) := MX_dd hD
                clear hD9
                refine lv_iinc (v := (nI (i + 1))) (lv' := [(1, .int (nI (i + 1))), (0, .ref (A 0))]) hx hb dX6_records_76 hl (k := 0) rfl (zinc _) (by decide) rfl (fun ls hl => ?_)
                refine lv_goto (tgt := 50) hx hb dX6_records_79 (by decide) ?_
                have e9 : (va_up (cpf 5 i σ (shf 105 hf)) (105 + i) (σ i)) = (cpf 5 (i + 1) σ (shf 105 hf)) := cpf_up 5 i σ (shf 105 hf)
                rw [e9] at hP
                clear e9
                have hP : va_P D vwCl (MX Y A σ (cpf 5 (i + 1) σ (shf 105 hf)) 5 wt wn tm cd wd sy gp lz i0 i1 i2 i3 fo de) H := hP
                have hD : va_D FA (MX Y A σ (cpf 5 (i + 1) σ (shf 105 hf)) 5 wt wn tm cd wd sy gp lz i0 i1 i2 i3 fo de) := MX_dd hD
                exact ih50 (i + 1) (by omega) (by omega) H locs hP hD hS ls (lv_sub hl [0, 1] rfl)
          have hP : va_P D vwCl (MX Y A σ (cpf 5 0 σ (shf 105 hf)) 5 wt wn tm cd wd sy gp lz i0 i1 i2 i3 fo de) H := by rw [← cpf_0 5 σ (shf 105 hf)]; exact hP
          have hP : va_P D vwCl (MX Y A σ (cpf 5 0 σ (shf 105 hf)) 5 wt wn tm cd wd sy gp lz i0 i1 i2 i3 fo de) H := hP
          have hD : va_D FA (MX Y A σ (cpf 5 0 σ (shf 105 hf)) 5 wt wn tm cd wd sy gp lz i0 i1 i2 i3 fo de) := MX_dd hD
          exact L50 (21 - 0 + 1) 0 (by omega) (Nat.lt_succ_self _) _ _ hP hD hS ls (lv_sub hl [0, 1] rfl)
        · refine lv_aload_n hx hb dX6_records_17 rfl (lv_at hl 1 rfl) ?_
          refine va_get (D := D) (ci := 6) (v := .ref (A 2)) (C := RX6) (T := TX6) (N := 17) hx hb hts qX6_records_inX6 hown hK hP 0 rfl rfl 1 (by decide) (hts _ qX6_records_Cond_fieldLink_RX6_13_NestedCodesModel_was_I_) (fun _ h9 => h9) rfl dX6_records_18 ?_
          refine lv_iload_n hx hb dX6_records_21 rfl (lv_at hl 0 rfl) ?_
          refine lv_aload_n hx hb dX6_records_22 rfl (lv_at hl 1 rfl) ?_
          refine va_get (D := D) (ci := 6) (v := .ref (A 2)) (C := RX6) (T := TX6) (N := 17) hx hb hts qX6_records_inX6 hown hK hP 0 rfl rfl 1 (by decide) (hts _ qX6_records_Cond_fieldLink_RX6_13_NestedCodesModel_was_I_) (fun _ h9 => h9) rfl dX6_records_23 ?_
          refine lv_iload_n hx hb dX6_records_26 rfl (lv_at hl 0 rfl) ?_
          refine lv_bipush (v := (nI 21)) hx hb dX6_records_27 (by decide) ?_
          refine zv_iadd hx hb (v := (nI (i + 21))) dX6_records_29 (nI_add _ _) ?_
          refine za_i hx hb hK hP 2 (f := fun k9 => nI ((shf i hf) k9)) (v := (nI (hf (i + 21)))) rfl (by omega) (by decide) dX6_records_30 (congrArg nI (if_neg (by omega))) ?_
          refine zs_i hx hb hK hP hD hS 2 (f := fun k9 => nI ((shf i hf) k9)) rfl (by omega) (by decide) dX6_records_31 (fun H locs hP hD9 hS => ?_)
          rw [zupd] at hP
          rw [MX_s2] at hP
          have hP : va_P D vwCl (MX Y A σ (va_up (shf i hf) i (hf (i + 21))) hn wt wn tm cd wd sy gp lz i0 i1 i2 i3 fo de) H := hP
          have hD : va_D FA (MX Y A σ (va_up (shf i hf) i (hf (i + 21))) hn wt wn tm cd wd sy gp lz i0 i1 i2 i3 fo de) := MX_dd hD
          clear hD9
          refine lv_iinc (v := (nI (i + 1))) (lv' := [(1, .int (nI (i + 1))), (0, .ref (A 0))]) hx hb dX6_records_32 hl (k := 0) rfl (zinc _) (by decide) rfl (fun ls hl => ?_)
          refine lv_goto (tgt := 11) hx hb dX6_records_35 (by decide) ?_
          have e9 : (va_up (shf i hf) i (hf (i + 21))) = (shf (i + 1) hf) := shf_up i hf
          rw [e9] at hP
          clear e9
          have hP : va_P D vwCl (MX Y A σ (shf (i + 1) hf) hn wt wn tm cd wd sy gp lz i0 i1 i2 i3 fo de) H := hP
          have hD : va_D FA (MX Y A σ (shf (i + 1) hf) hn wt wn tm cd wd sy gp lz i0 i1 i2 i3 fo de) := MX_dd hD
          exact ih11 (i + 1) (by omega) (by omega) H locs hP hD hS ls (lv_sub hl [0, 1] rfl)
    have hP : va_P D vwCl (MX Y A σ (shf 0 hf) hn wt wn tm cd wd sy gp lz i0 i1 i2 i3 fo de) H := by rw [← shf_0 hf]; exact hP
    have hP : va_P D vwCl (MX Y A σ (shf 0 hf) hn wt wn tm cd wd sy gp lz i0 i1 i2 i3 fo de) H := hP
    have hD : va_D FA (MX Y A σ (shf 0 hf) hn wt wn tm cd wd sy gp lz i0 i1 i2 i3 fo de) := MX_dd hD
    exact L11 (105 - 0 + 1) 0 (by omega) (Nat.lt_succ_self _) _ _ hP hD hS ls (lv_sub hl [0, 1] rfl)
theorem qX6_empties_Cond_fieldLink_RX6_7_NestedCodesModel_d_I_ : Cond.fieldLink RX6 7 "NestedCodesModel" "d" "[I" ∈ wsX6_empties := by decide +kernel
theorem qX6_empties_inX6 : ∀ w ∈ wsX60, w ∈ wsX6_empties := by decide +kernel
set_option maxHeartbeats 4000000 in
set_option maxRecDepth 100000 in
theorem c_X6_empties (l : Launch) (D : va_G) (Y : Nat → ClassId) (A : Nat → Nat) (σ : Nat → Nat) (hf : Nat → Nat) (hn : Nat) (wt : Nat → Nat) (wn : Nat) (tm : Nat → Nat) (cd : Nat → Nat) (wd : Nat → Nat) (sy : Nat → Nat) (gp : Nat → Nat) (lz : Nat) (i0 : Nat → Nat) (i1 : Nat → Nat) (i2 : Nat → Nat) (i3 : Nat → Nat) (fo : Int32) (de : Int32)    : Met l yX6_empties wsX6_empties ({ frames := 0, cells := 0, slots := 0, locals := 0 } : Room) (va_Pc [.ref (A 0)] (zBw D Y (MX Y A σ hf hn wt wn tm cd wd sy gp lz i0 i1 i2 i3 fo de))) (zW none D (MX Y A (clr σ) hf hn wt wn tm cd wd sy gp lz i0 i1 i2 i3 fo de) (zA (MX Y A σ hf hn wt wn tm cd wd sy gp lz i0 i1 i2 i3 fo de))) 0 0 (zA (MX Y A σ hf hn wt wn tm cd wd sy gp lz i0 i1 i2 i3 fo de)) := by
  refine zw_of (cc := cX6_empties) (maxL := 2) (ret := none) (by decide) rfl (Nat.le_of_ble_eq_true rfl) ?_
  intro p e s m below meth c R args Q FA hR hx hb hml hr hlk hown hts hK hN hQ hP hD hS ls hl
  have hown : s.vm.findClass RX6 = some m.cls := hown
  have hl : lv_has ls 2 [(0, .ref (A 0))] := hl
  have hS := hS
  suffices hgo : ∀ (H : Heap) (locs : List Loc), va_P D vwCl (MX Y A σ hf hn wt wn tm cd wd sy gp lz i0 i1 i2 i3 fo de) H → va_S FA s.heap H locs → W p l e R s m args below meth c H locs 0 0 Q (F0 m 0 ls []) from hgo _ _ hP hS
  clear hP hS
  intro H locs hP hS
  refine lv_iconst (v := (nI 0)) hx hb dX6_empties_0 (by decide) ?_
  refine lv_istore_n (lv' := [(1, .int (nI 0)), (0, .ref (A 0))]) hx hb dX6_empties_1 rfl hl (by decide) rfl (fun ls hl => ?_)
  have L2 : ∀ (n9 : Nat) (i : Nat) (hi : i ≤ 12), 12 - i < n9 → ∀ (H : Heap) (locs : List Loc), va_P D vwCl (MX Y A (emI i σ) hf hn wt wn tm cd wd sy gp lz i0 i1 i2 i3 fo de) H → va_D FA (MX Y A (emI i σ) hf hn wt wn tm cd wd sy gp lz i0 i1 i2 i3 fo de) → va_S FA s.heap H locs → ∀ ls : Array Slot, lv_has ls 2 [(1, .int (nI i)), (0, .ref (A 0))] → W p l e R s m args below meth c H locs 0 0 Q (F0 m 2 ls []) := by
    intro n9
    induction n9 with
    | zero => intro i hi hn9; exact absurd hn9 (Nat.not_lt_zero _)
    | succ n9 ih9 =>
      have ih2 := ih9
      clear ih9
      intro i hi hn9 H locs hP hD hS ls hl
      refine lv_iload_n hx hb dX6_empties_2 rfl (lv_at hl 0 rfl) ?_
      refine lv_bipush (v := (nI 12)) hx hb dX6_empties_3 (by decide) ?_
      refine zn_icmp_ge (tgt := 24)  hx hb dX6_empties_5 (by decide) (by omega) (by omega) (fun c5 => ?_) (fun c5 => ?_)
      · obtain rfl : i = 12 := by omega
        refine lv_aload_n hx hb dX6_empties_24 rfl (lv_at hl 1 rfl) ?_
        refine va_get (D := D) (ci := 6) (v := .ref (A 1)) (C := RX6) (T := TX6) (N := 17) hx hb hts qX6_empties_inX6 hown hK hP 0 rfl rfl 0 (by decide) (hts _ qX6_empties_Cond_fieldLink_RX6_7_NestedCodesModel_d_I_) (fun _ h9 => h9) rfl dX6_empties_25 ?_
        refine lv_bipush (v := (nI 7)) hx hb dX6_empties_28 (by decide) ?_
        refine lv_iconst (v := (nI 0)) hx hb dX6_empties_30 (by decide) ?_
        refine zs_i hx hb hK hP hD hS 1 (f := fun k9 => nI ((emI 12 σ) k9)) rfl (by omega) (by decide) dX6_empties_31 (fun H locs hP hD9 hS => ?_)
        rw [zupd] at hP
        rw [MX_s1] at hP
        have hP : va_P D vwCl (MX Y A (va_up (emI 12 σ) 7 0) hf hn wt wn tm cd wd sy gp lz i0 i1 i2 i3 fo de) H := hP
        have hD : va_D FA (MX Y A (va_up (emI 12 σ) 7 0) hf hn wt wn tm cd wd sy gp lz i0 i1 i2 i3 fo de) := MX_dd hD
        clear hD9
        refine lv_aload_n hx hb dX6_empties_32 rfl (lv_at hl 1 rfl) ?_
        refine va_get (D := D) (ci := 6) (v := .ref (A 1)) (C := RX6) (T := TX6) (N := 17) hx hb hts qX6_empties_inX6 hown hK hP 0 rfl rfl 0 (by decide) (hts _ qX6_empties_Cond_fieldLink_RX6_7_NestedCodesModel_d_I_) (fun _ h9 => h9) rfl dX6_empties_33 ?_
        refine lv_bipush (v := (nI 8)) hx hb dX6_empties_36 (by decide) ?_
        refine lv_iconst (v := (nI 0)) hx hb dX6_empties_38 (by decide) ?_
        refine zs_i hx hb hK hP hD hS 1 (f := fun k9 => nI ((va_up (emI 12 σ) 7 0) k9)) rfl (by omega) (by decide) dX6_empties_39 (fun H locs hP hD9 hS => ?_)
        rw [zupd] at hP
        rw [MX_s1] at hP
        have hP : va_P D vwCl (MX Y A (va_up (va_up (emI 12 σ) 7 0) 8 0) hf hn wt wn tm cd wd sy gp lz i0 i1 i2 i3 fo de) H := hP
        have hD : va_D FA (MX Y A (va_up (va_up (emI 12 σ) 7 0) 8 0) hf hn wt wn tm cd wd sy gp lz i0 i1 i2 i3 fo de) := MX_dd hD
        clear hD9
        exact zw_v hx hb hr hlk hQ hS dX6_empties_40 ((by rw [← emI_12]; exact hP))
      · refine lv_aload_n hx hb dX6_empties_8 rfl (lv_at hl 1 rfl) ?_
        refine va_get (D := D) (ci := 6) (v := .ref (A 1)) (C := RX6) (T := TX6) (N := 17) hx hb hts qX6_empties_inX6 hown hK hP 0 rfl rfl 0 (by decide) (hts _ qX6_empties_Cond_fieldLink_RX6_7_NestedCodesModel_d_I_) (fun _ h9 => h9) rfl dX6_empties_9 ?_
        refine lv_bipush (v := (nI 9)) hx hb dX6_empties_12 (by decide) ?_
        refine lv_iload_n hx hb dX6_empties_14 rfl (lv_at hl 0 rfl) ?_
        refine zv_iadd hx hb (v := (nI (9 + i))) dX6_empties_15 (nI_add _ _) ?_
        refine lv_iconst (v := (nI 0)) hx hb dX6_empties_16 (by decide) ?_
        refine zs_i hx hb hK hP hD hS 1 (f := fun k9 => nI ((emI i σ) k9)) rfl (by omega) (by decide) dX6_empties_17 (fun H locs hP hD9 hS => ?_)
        rw [zupd] at hP
        rw [MX_s1] at hP
        have hP : va_P D vwCl (MX Y A (va_up (emI i σ) (9 + i) 0) hf hn wt wn tm cd wd sy gp lz i0 i1 i2 i3 fo de) H := hP
        have hD : va_D FA (MX Y A (va_up (emI i σ) (9 + i) 0) hf hn wt wn tm cd wd sy gp lz i0 i1 i2 i3 fo de) := MX_dd hD
        clear hD9
        refine lv_iinc (v := (nI (i + 1))) (lv' := [(1, .int (nI (i + 1))), (0, .ref (A 0))]) hx hb dX6_empties_18 hl (k := 0) rfl (zinc _) (by decide) rfl (fun ls hl => ?_)
        refine lv_goto (tgt := 2) hx hb dX6_empties_21 (by decide) ?_
        have e9 : (va_up (emI i σ) (9 + i) 0) = (emI (i + 1) σ) := emI_up i σ
        rw [e9] at hP
        clear e9
        have hP : va_P D vwCl (MX Y A (emI (i + 1) σ) hf hn wt wn tm cd wd sy gp lz i0 i1 i2 i3 fo de) H := hP
        have hD : va_D FA (MX Y A (emI (i + 1) σ) hf hn wt wn tm cd wd sy gp lz i0 i1 i2 i3 fo de) := MX_dd hD
        exact ih2 (i + 1) (by omega) (by omega) H locs hP hD hS ls (lv_sub hl [0, 1] rfl)
  have hP : va_P D vwCl (MX Y A (emI 0 σ) hf hn wt wn tm cd wd sy gp lz i0 i1 i2 i3 fo de) H := by rw [← emI_0 σ]; exact hP
  have hP : va_P D vwCl (MX Y A (emI 0 σ) hf hn wt wn tm cd wd sy gp lz i0 i1 i2 i3 fo de) H := hP
  have hD : va_D FA (MX Y A (emI 0 σ) hf hn wt wn tm cd wd sy gp lz i0 i1 i2 i3 fo de) := MX_dd hD
  exact L2 (12 - 0 + 1) 0 (by omega) (Nat.lt_succ_self _) _ _ hP hD hS ls (lv_sub hl [0, 1] rfl)
