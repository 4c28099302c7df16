set_option maxHeartbeats 4000000 in
set_option maxRecDepth 100000 in
theorem c_X6_wastedTrials (l : Launch) (D : va_G) (Y : Nat → ClassId) (A : Nat → Nat) (σ : Nat → Nat) (hf : Nat → Nat) (hn : Nat) (wt : Nat → Nat) (wn : Nat) (sy : Nat → Nat) (gp : Nat → Nat) (i0 : Nat → Nat) (i1 : Nat → Nat) (i2 : Nat → Nat) (i3 : Nat → Nat) (fo : Int32) (de : Int32)   (kσ : zWF σ) (ksy : ∀ w9, w9 < 2 ^ (σ 2) → sy w9 = syS σ w9) (kgp : ∀ w9, w9 < 2 ^ (σ 2) → gp w9 = gpS σ w9) : Met l yX6_wastedTrials wsX6_wastedTrials ({ frames := 2, cells := 0, slots := 0, locals := 44 } : Room) (va_Pc [.ref (A 0)] (zBw D Y (MX Y A σ hf hn wt wn tmS cdS (wdS σ) sy gp (ddS σ) i0 i1 i2 i3 fo de))) (zW (some (.int (wastedV σ))) D (MX Y A σ hf hn wt wn tmS cdS (wdS σ) sy gp (ddS σ) (ag0 σ i0) (ag1 σ i1) (ag2 σ i2) (insI (trS σ) i3 (σ 0)) fo de) (zA (MX Y A σ hf hn wt wn tmS cdS (wdS σ) sy gp (ddS σ) i0 i1 i2 i3 fo de))) 0 0 (zA (MX Y A σ hf hn wt wn tmS cdS (wdS σ) sy gp (ddS σ) i0 i1 i2 i3 fo de)) := by
  refine zw_of (cc := cX6_wastedTrials) (maxL := 4) (ret := (some .int)) (by decide) rfl (Nat.le_of_ble_eq_true rfl) ?_
  intro p e s m below meth c R args Q FA hR hx hb hml hr hlk hown hts hK hN hQ hP hD hS ls hl
  have hown : s.vm.findClass RX6 = some m.cls := hown
  have hl : lv_has ls 4 [(0, .ref (A 0))] := hl
  have hS := hS
  have kw := kσ
  obtain ⟨n3, n12, d1, d3, dn, b4, b10, gl, lm, sn, wl, wnz⟩ := kw
  have pb := zp_b b10
  have pk9 := zp_k d3
  suffices hgo : ∀ (H : Heap) (locs : List Loc), va_P D vwCl (MX Y A σ hf hn wt wn tmS cdS (wdS σ) sy gp (ddS σ) i0 i1 i2 i3 fo de) H → va_S FA s.heap H locs → W p l e R s m args below meth c H locs 0 0 Q (F0 m 0 ls []) from hgo _ _ hP hS
  clear hP hS
  intro H locs hP hS
  refine lv_aload_n hx hb dX6_wastedTrials_0 rfl (lv_at hl 0 rfl) ?_
  refine zc_w (va_runV (As := []) (rest := []) ⟨hx, hb, hml, hown, hts⟩ (c_X6_judges l D Y A σ hf hn wt wn sy gp i0 i1 i2 i3 fo de  kσ ksy kgp) (cwV 0 hts gX6_wastedTrials_X6_judges rfl rfl rfl (by decide +kernel) (by rw [hR]; exact ⟨Nat.le_of_ble_eq_true rfl, Nat.le_of_ble_eq_true rfl⟩)) ⟨zBw_blind, va_recv hK hP (ci := 6) (q0 := 0) rfl rfl, zp_w hP hD hK hN⟩ rfl rfl hl.1 rfl (lv_room (Nat.le_of_ble_eq_true rfl)) dX6_wastedTrials_1 ⟨Nat.zero_le _, Nat.zero_le _⟩).run hS (zA_of hD) (fun H locs hP hz hk hS => ?_)
  have hD : va_D FA (MX Y A σ hf hn wt wn tmS cdS (wdS σ) sy gp (ddS σ) (ag0 σ i0) (ag1 σ i1) (ag2 σ i2) (insI (trS σ) i3 (σ 0)) fo de) := MX_dd hD
  have kj := jCon_ju σ i0 i1 i2 i3
  refine lv_aload_n hx hb dX6_wastedTrials_4 rfl (lv_at hl 0 rfl) ?_
  refine zc_r (va_runV (As := []) (rest := []) ⟨hx, hb, hml, hown, hts⟩ (c_X6_distance l D Y A σ hf hn wt wn tmS cdS (wdS σ) sy gp (ddS σ) (ag0 σ i0) (ag1 σ i1) (ag2 σ i2) (insI (trS σ) i3 (σ 0)) fo de  kσ) (cwV 0 hts gX6_wastedTrials_X6_distance rfl rfl rfl (by decide +kernel) (by rw [hR]; exact ⟨Nat.le_of_ble_eq_true rfl, Nat.le_of_ble_eq_true rfl⟩)) ⟨zB_blind, va_recv hK hP (ci := 6) (q0 := 0) rfl rfl, zp_r hP hK hN⟩ rfl rfl hl.1 rfl (lv_room (Nat.le_of_ble_eq_true rfl)) dX6_wastedTrials_5 ⟨Nat.zero_le _, Nat.zero_le _⟩).run ?_
  refine lv_istore_n (lv' := [(1, .int (nI (σ 0 - σ 1 + 1))), (0, .ref (A 0))]) hx hb dX6_wastedTrials_8 rfl hl (by decide) rfl (fun ls hl => ?_)
  refine lv_iconst (v := (nI 0)) hx hb dX6_wastedTrials_9 (by decide) ?_
  refine lv_istore_n (lv' := [(2, .int (nI 0)), (1, .int (nI (σ 0 - σ 1 + 1))), (0, .ref (A 0))]) hx hb dX6_wastedTrials_10 rfl hl (by decide) rfl (fun ls hl => ?_)
  have L11 : ∀ (n9 : Nat) (i : Nat) (hi : i ≤ nMs σ), nMs σ - i < n9 → ∀ (H : Heap) (locs : List Loc), va_P D vwCl (MX Y A σ hf hn wt wn tmS cdS (wdS σ) sy gp (ddS σ) (ag0 σ i0) (ag1 σ i1) (ag2 σ i2) (insI (trS σ) i3 (σ 0)) fo de) H → va_D FA (MX Y A σ hf hn wt wn tmS cdS (wdS σ) sy gp (ddS σ) (ag0 σ i0) (ag1 σ i1) (ag2 σ i2) (insI (trS σ) i3 (σ 0)) fo de) → va_S FA s.heap H locs → ∀ ls : Array Slot, lv_has ls 4 [(2, .int (nI i)), (1, .int (nI (waI σ i))), (0, .ref (A 0))] → W p l e R s m args below meth c H locs 0 0 Q (F0 m 11 ls []) := by
    intro n9
    induction n9 with
    | zero => intro i hi hn9; exact absurd hn9 (Nat.not_lt_zero _)
    | succ n9 ih9 =>
      have ih11 := ih9
      clear ih9
      intro i hi hn9 H locs hP hD hS ls hl
      have hwl := waI_le σ i
      have hnm : nMs σ = 2 ^ (4 * σ 1) := rfl
      refine lv_iload_n hx hb dX6_wastedTrials_11 rfl (lv_at hl 0 rfl) ?_
      refine lv_aload_n hx hb dX6_wastedTrials_12 rfl (lv_at hl 2 rfl) ?_
      refine zc_r (va_runV (As := []) (rest := [.int (nI i)]) ⟨hx, hb, hml, hown, hts⟩ (c_X6_messages l D Y A σ hf hn wt wn tmS cdS (wdS σ) sy gp (ddS σ) (ag0 σ i0) (ag1 σ i1) (ag2 σ i2) (insI (trS σ) i3 (σ 0)) fo de  kσ) (cwV 0 hts gX6_wastedTrials_X6_messages rfl rfl rfl (by decide +kernel) (by rw [hR]; exact ⟨Nat.le_of_ble_eq_true rfl, Nat.le_of_ble_eq_true rfl⟩)) ⟨zB_blind, va_recv hK hP (ci := 6) (q0 := 0) rfl rfl, zp_r hP hK hN⟩ rfl rfl hl.1 rfl (lv_room (Nat.le_of_ble_eq_true rfl)) dX6_wastedTrials_13 ⟨Nat.zero_le _, Nat.zero_le _⟩).run ?_
      refine zn_icmp_ge (tgt := 70)  hx hb dX6_wastedTrials_16 (by decide) (by omega) (by omega) (fun c16 => ?_) (fun c16 => ?_)
      · obtain rfl : i = nMs σ := by omega
        refine lv_iload_n hx hb dX6_wastedTrials_70 rfl (lv_at hl 1 rfl) ?_
        exact zw_i hx hb hr hlk hQ hS dX6_wastedTrials_71 (waI_end σ) (hP)
      · refine lv_aload_n hx hb dX6_wastedTrials_19 rfl (lv_at hl 2 rfl) ?_
        refine lv_iload_n hx hb dX6_wastedTrials_20 rfl (lv_at hl 0 rfl) ?_
        refine zc_r (va_runV (As := [.int (nI i)]) (rest := []) ⟨hx, hb, hml, hown, hts⟩ (c_X6_scoreOf l D Y A σ hf hn wt wn sy gp (ag0 σ i0) (ag1 σ i1) (ag2 σ i2) (insI (trS σ) i3 (σ 0)) fo de i kσ kj (by omega)) (cwV 1 hts gX6_wastedTrials_X6_scoreOf rfl rfl rfl (by decide +kernel) (by rw [hR]; exact ⟨Nat.le_of_ble_eq_true rfl, Nat.le_of_ble_eq_true rfl⟩)) ⟨zB_blind, va_recv hK hP (ci := 6) (q0 := 0) rfl rfl, zp_r hP hK hN⟩ rfl rfl hl.1 rfl (lv_room (Nat.le_of_ble_eq_true rfl)) dX6_wastedTrials_21 ⟨Nat.zero_le _, Nat.zero_le _⟩).run ?_
        have hsc21 := scS_b n12 i
        refine lv_aload_n hx hb dX6_wastedTrials_24 rfl (lv_at hl 2 rfl) ?_
        refine zc_r (va_runV (As := []) (rest := [.int (zI (scS σ i))]) ⟨hx, hb, hml, hown, hts⟩ (c_X6_bar l D Y A σ hf hn wt wn sy gp (ag0 σ i0) (ag1 σ i1) (ag2 σ i2) (insI (trS σ) i3 (σ 0)) fo de  kσ) (cwV 0 hts gX6_wastedTrials_X6_bar rfl rfl rfl (by decide +kernel) (by rw [hR]; exact ⟨Nat.le_of_ble_eq_true rfl, Nat.le_of_ble_eq_true rfl⟩)) ⟨zB_blind, va_recv hK hP (ci := 6) (q0 := 0) rfl rfl, zp_r hP hK hN⟩ rfl rfl hl.1 rfl (lv_room (Nat.le_of_ble_eq_true rfl)) dX6_wastedTrials_25 ⟨Nat.zero_le _, Nat.zero_le _⟩).run ?_
        have hbar25 := barS_le kσ
        refine zz_icmp_le (tgt := 64) (a := scS σ i) (b := (((barS σ : Nat)) : Int)) hx hb dX6_wastedTrials_28 (by decide) (zI_toInt (by omega) (by omega)) (zt_n (by omega)) (fun c28 => ?_) (fun c28 => ?_)
        · refine lv_iinc (v := (nI (i + 1))) (lv' := [(2, .int (nI (i + 1))), (1, .int (nI (waI σ i))), (0, .ref (A 0))]) hx hb dX6_wastedTrials_64 hl (k := 0) rfl (zinc _) (by decide) rfl (fun ls hl => ?_)
          refine lv_goto (tgt := 11) hx hb dX6_wastedTrials_67 (by decide) ?_
          rw [show (.int (nI (waI σ i)) : Value) = .int (nI (waI σ (i + 1))) from congrArg _ (congrArg nI (waI_no (by omega)))] at hl
          have hP : va_P D vwCl (MX Y A σ hf hn wt wn tmS cdS (wdS σ) sy gp (ddS σ) (ag0 σ i0) (ag1 σ i1) (ag2 σ i2) (insI (trS σ) i3 (σ 0)) fo de) H := hP
          have hD : va_D FA (MX Y A σ hf hn wt wn tmS cdS (wdS σ) sy gp (ddS σ) (ag0 σ i0) (ag1 σ i1) (ag2 σ i2) (insI (trS σ) i3 (σ 0)) fo de) := MX_dd hD
          exact ih11 (i + 1) (by omega) (by omega) H locs hP hD hS ls (lv_sub hl [0, 1, 2] rfl)
        · have hw9 := waI_law kσ (i := i) (by omega) (by omega)
          refine lv_iconst (v := (nI 0)) hx hb dX6_wastedTrials_31 (by decide) ?_
          refine lv_istore_n (lv' := [(3, .int (nI 0)), (2, .int (nI i)), (1, .int (nI (waI σ i))), (0, .ref (A 0))]) hx hb dX6_wastedTrials_32 rfl hl (by decide) rfl (fun ls hl => ?_)
          have L33 : ∀ (n9 : Nat) (t : Nat) (ht : t ≤ (σ 0 - σ 1 + 1)), (σ 0 - σ 1 + 1) - t < n9 → ∀ (H : Heap) (locs : List Loc), va_P D vwCl (MX Y A σ hf hn wt wn tmS cdS (wdS σ) sy gp (ddS σ) (ag0 σ i0) (ag1 σ i1) (ag2 σ i2) (insI (trS σ) i3 (σ 0)) fo de) H → va_D FA (MX Y A σ hf hn wt wn tmS cdS (wdS σ) sy gp (ddS σ) (ag0 σ i0) (ag1 σ i1) (ag2 σ i2) (insI (trS σ) i3 (σ 0)) fo de) → va_S FA s.heap H locs → ∀ ls : Array Slot, lv_has ls 4 [(3, .int (nI t)), (2, .int (nI i)), (1, .int (nI ((σ 0 - σ 1 + 1) - cnt (fun s => resB σ s i) t))), (0, .ref (A 0))] → W p l e R s m args below meth c H locs 0 0 Q (F0 m 33 ls []) := by
            intro n9
            induction n9 with
            | zero => intro t ht hn9; exact absurd hn9 (Nat.not_lt_zero _)
            | succ n9 ih9 =>
              have ih33 := ih9
              clear ih9
              intro t ht hn9 H locs hP hD hS ls hl
              have hct := cnt_le (fun s => resB σ s i) t
              have hb1 := b01_le (resB σ t i)
              refine lv_iload_n hx hb dX6_wastedTrials_33 rfl (lv_at hl 0 rfl) ?_
              refine lv_aload_n hx hb dX6_wastedTrials_34 rfl (lv_at hl 3 rfl) ?_
              refine zc_r (va_runV (As := []) (rest := [.int (nI t)]) ⟨hx, hb, hml, hown, hts⟩ (c_X6_distance l D Y A σ hf hn wt wn tmS cdS (wdS σ) sy gp (ddS σ) (ag0 σ i0) (ag1 σ i1) (ag2 σ i2) (insI (trS σ) i3 (σ 0)) fo de  kσ) (cwV 0 hts gX6_wastedTrials_X6_distance rfl rfl rfl (by decide +kernel) (by rw [hR]; exact ⟨Nat.le_of_ble_eq_true rfl, Nat.le_of_ble_eq_true rfl⟩)) ⟨zB_blind, va_recv hK hP (ci := 6) (q0 := 0) rfl rfl, zp_r hP hK hN⟩ rfl rfl hl.1 rfl (lv_room (Nat.le_of_ble_eq_true rfl)) dX6_wastedTrials_35 ⟨Nat.zero_le _, Nat.zero_le _⟩).run ?_
              refine zn_icmp_ge (tgt := 64)  hx hb dX6_wastedTrials_38 (by decide) (by omega) (by omega) (fun c38 => ?_) (fun c38 => ?_)
              · obtain rfl : t = (σ 0 - σ 1 + 1) := by omega
                refine lv_iinc (v := (nI (i + 1))) (lv' := [(2, .int (nI (i + 1))), (3, .int (nI ((σ 0 - σ 1 + 1)))), (1, .int (nI ((σ 0 - σ 1 + 1) - cnt (fun s => resB σ s i) (σ 0 - σ 1 + 1)))), (0, .ref (A 0))]) hx hb dX6_wastedTrials_64 hl (k := 1) rfl (zinc _) (by decide) rfl (fun ls hl => ?_)
                refine lv_goto (tgt := 11) hx hb dX6_wastedTrials_67 (by decide) ?_
                rw [show (.int (nI ((σ 0 - σ 1 + 1) - cnt (fun s => resB σ s i) (σ 0 - σ 1 + 1))) : Value) = .int (nI (waI σ (i + 1))) from congrArg _ (congrArg nI hw9.2.symm)] at hl
                have hP : va_P D vwCl (MX Y A σ hf hn wt wn tmS cdS (wdS σ) sy gp (ddS σ) (ag0 σ i0) (ag1 σ i1) (ag2 σ i2) (insI (trS σ) i3 (σ 0)) fo de) H := hP
                have hD : va_D FA (MX Y A σ hf hn wt wn tmS cdS (wdS σ) sy gp (ddS σ) (ag0 σ i0) (ag1 σ i1) (ag2 σ i2) (insI (trS σ) i3 (σ 0)) fo de) := MX_dd hD
                exact ih11 (i + 1) (by omega) (by omega) H locs hP hD hS ls (lv_sub hl [0, 2, 3] rfl)
              · refine lv_iload_n hx hb dX6_wastedTrials_41 rfl (lv_at hl 2 rfl) ?_
                refine lv_aload_n hx hb dX6_wastedTrials_42 rfl (lv_at hl 3 rfl) ?_
                refine lv_iload_n hx hb dX6_wastedTrials_43 rfl (lv_at hl 1 rfl) ?_
                refine lv_iload_n hx hb dX6_wastedTrials_44 rfl (lv_at hl 0 rfl) ?_
                refine zc_r (va_runV (As := [.int (nI i), .int (nI t)]) (rest := [.int (nI ((σ 0 - σ 1 + 1) - cnt (fun s => resB σ s i) t))]) ⟨hx, hb, hml, hown, hts⟩ (c_X6_isResult l D Y A σ hf hn wt wn sy gp (ag0 σ i0) (ag1 σ i1) (ag2 σ i2) (insI (trS σ) i3 (σ 0)) fo de i t kσ kj (by omega) (by omega)) (cwV 2 hts gX6_wastedTrials_X6_isResult rfl rfl rfl (by decide +kernel) (by rw [hR]; exact ⟨Nat.le_of_ble_eq_true rfl, Nat.le_of_ble_eq_true rfl⟩)) ⟨zB_blind, va_recv hK hP (ci := 6) (q0 := 0) rfl rfl, zp_r hP hK hN⟩ rfl rfl hl.1 rfl (lv_room (Nat.le_of_ble_eq_true rfl)) dX6_wastedTrials_45 ⟨Nat.zero_le _, Nat.zero_le _⟩).run ?_
                have J56 : W p l e R s m args below meth c H locs 0 0 Q (F0 m 56 ls [.int (nI (b01 (resB σ t i))), .int (nI ((σ 0 - σ 1 + 1) - cnt (fun s => resB σ s i) t))]) := by
                  refine zv_isub hx hb (v := (nI (((σ 0 - σ 1 + 1) - cnt (fun s => resB σ s i) t) - (b01 (resB σ t i))))) dX6_wastedTrials_56 (pk_sub (by omega)) ?_
                  refine lv_istore_n (lv' := [(1, .int (nI (((σ 0 - σ 1 + 1) - cnt (fun s => resB σ s i) t) - (b01 (resB σ t i))))), (3, .int (nI t)), (2, .int (nI i)), (0, .ref (A 0))]) hx hb dX6_wastedTrials_57 rfl hl (by decide) rfl (fun ls hl => ?_)
                  refine lv_iinc (v := (nI (t + 1))) (lv' := [(3, .int (nI (t + 1))), (1, .int (nI (((σ 0 - σ 1 + 1) - cnt (fun s => resB σ s i) t) - (b01 (resB σ t i))))), (2, .int (nI i)), (0, .ref (A 0))]) hx hb dX6_wastedTrials_58 hl (k := 1) rfl (zinc _) (by decide) rfl (fun ls hl => ?_)
                  refine lv_goto (tgt := 33) hx hb dX6_wastedTrials_61 (by decide) ?_
                  rw [show (.int (nI (((σ 0 - σ 1 + 1) - cnt (fun s => resB σ s i) t) - (b01 (resB σ t i)))) : Value) = .int (nI ((σ 0 - σ 1 + 1) - cnt (fun s => resB σ s i) (t + 1))) from congrArg _ (congrArg nI (show (σ 0 - σ 1 + 1) - cnt (fun s => resB σ s i) t - b01 (resB σ t i) = (σ 0 - σ 1 + 1) - (cnt (fun s => resB σ s i) t + b01 (resB σ t i)) by omega))] at hl
                  have hP : va_P D vwCl (MX Y A σ hf hn wt wn tmS cdS (wdS σ) sy gp (ddS σ) (ag0 σ i0) (ag1 σ i1) (ag2 σ i2) (insI (trS σ) i3 (σ 0)) fo de) H := hP
                  have hD : va_D FA (MX Y A σ hf hn wt wn tmS cdS (wdS σ) sy gp (ddS σ) (ag0 σ i0) (ag1 σ i1) (ag2 σ i2) (insI (trS σ) i3 (σ 0)) fo de) := MX_dd hD
                  exact ih33 (t + 1) (by omega) (by omega) H locs hP hD hS ls (lv_sub hl [0, 2, 1, 3] rfl)
                refine zb_if_eq (tgt := 55)  hx hb dX6_wastedTrials_48 (by decide)  (fun c48 => ?_) (fun c48 => ?_)
                · refine lv_iconst (v := (nI 0)) hx hb dX6_wastedTrials_55 (by decide) ?_
                  refine zt_i (v := (nI (b01 (resB σ t i)))) (by first | exact congrArg nI (by rw [c48]; rfl) | exact congrArg nI (by rw [bool_f c48]; rfl)) ?_
                  exact J56
                · refine lv_iconst (v := (nI 1)) hx hb dX6_wastedTrials_51 (by decide) ?_
                  refine lv_goto (tgt := 56) hx hb dX6_wastedTrials_52 (by decide) ?_
                  refine zt_i (v := (nI (b01 (resB σ t i)))) (by first | exact congrArg nI (by rw [c48]; rfl) | exact congrArg nI (by rw [bool_f c48]; rfl)) ?_
                  exact J56
          rw [show (.int (nI (waI σ i)) : Value) = .int (nI ((σ 0 - σ 1 + 1) - cnt (fun s => resB σ s i) 0)) from congrArg _ (congrArg nI hw9.1)] at hl
          have hP : va_P D vwCl (MX Y A σ hf hn wt wn tmS cdS (wdS σ) sy gp (ddS σ) (ag0 σ i0) (ag1 σ i1) (ag2 σ i2) (insI (trS σ) i3 (σ 0)) fo de) H := hP
          have hD : va_D FA (MX Y A σ hf hn wt wn tmS cdS (wdS σ) sy gp (ddS σ) (ag0 σ i0) (ag1 σ i1) (ag2 σ i2) (insI (trS σ) i3 (σ 0)) fo de) := MX_dd hD
          exact L33 ((σ 0 - σ 1 + 1) - 0 + 1) 0 (by omega) (Nat.lt_succ_self _) _ _ hP hD hS ls (lv_sub hl [0, 1, 2, 3] rfl)
  rw [show (.int (nI (σ 0 - σ 1 + 1)) : Value) = .int (nI (waI σ 0)) from congrArg _ (congrArg nI (waI_0 σ).symm)] at hl
  have hP : va_P D vwCl (MX Y A σ hf hn wt wn tmS cdS (wdS σ) sy gp (ddS σ) (ag0 σ i0) (ag1 σ i1) (ag2 σ i2) (insI (trS σ) i3 (σ 0)) fo de) H := hP
  have hD : va_D FA (MX Y A σ hf hn wt wn tmS cdS (wdS σ) sy gp (ddS σ) (ag0 σ i0) (ag1 σ i1) (ag2 σ i2) (insI (trS σ) i3 (σ 0)) fo de) := MX_dd hD
  exact L11 (nMs σ - 0 + 1) 0 (by omega) (Nat.lt_succ_self _) _ _ hP hD hS ls (lv_sub hl [0, 1, 2] rfl)
set_option maxHeartbeats 4000000 in
set_option maxRecDepth 100000 in
theorem c_X6_block_bad (l : Launch) (D : va_G) (Y : Nat → ClassId) (A : Nat → Nat) (σ : Nat → Nat) (hf : Nat → Nat) (hn : Nat) (wt : Nat → Nat) (wn : Nat) (sy : Nat → Nat) (gp : Nat → Nat) (i0 : Nat → Nat) (i1 : Nat → Nat) (i2 : Nat → Nat) (i3 : Nat → Nat) (fo : Int32) (de : Int32) (y : Int32) (x : Int32)  (kσ : zWF σ) (ksy : ∀ w9, w9 < 2 ^ (σ 2) → sy w9 = syS σ w9) (kgp : ∀ w9, w9 < 2 ^ (σ 2) → gp w9 = gpS σ w9) (hbad : ¬ ((0 ≤ (y).toInt ∧ (y).toInt < ((σ 0 : Nat) : Int)) ∧ 0 ≤ (x).toInt ∧ (x).toInt ≤ 4)) : Met l yX6_block wsX6_block ({ frames := 2, cells := 0, slots := 0, locals := 43 } : Room) (va_Pc [.ref (A 0), .int (y), .int (x)] (zB D Y (MX Y A σ hf hn wt wn tmS cdS (wdS σ) sy gp (ddS σ) i0 i1 i2 i3 fo de))) (zR (.int (-1001))) 0 0 (fun _ => False) := by
  refine zr_of (cc := cX6_block) (maxL := 3) (ret := (some .int)) (by decide) rfl (Nat.le_of_ble_eq_true rfl) ?_
  intro p e s m below meth c R args Q hR hx hb hml hr hlk hown hts hK hN hP hQ ls hl
  have hown : s.vm.findClass RX6 = some m.cls := hown
  have hl : lv_has ls 3 [(0, .ref (A 0)), (1, .int (y)), (2, .int (x))] := hl
  have kw := kσ
  obtain ⟨n3, n12, d1, d3, dn, b4, b10, gl, lm, sn, wl, wnz⟩ := kw
  have pb := zp_b b10
  have pk9 := zp_k d3
  refine lv_aload_n hx hb dX6_block_0 rfl (lv_at hl 0 rfl) ?_
  refine lv_iload_n hx hb dX6_block_1 rfl (lv_at hl 1 rfl) ?_
  refine zc_r (va_runV (As := [.int (y)]) (rest := []) ⟨hx, hb, hml, hown, hts⟩ (c_X6_isBlock l D Y A σ hf hn wt wn tmS cdS (wdS σ) sy gp (ddS σ) i0 i1 i2 i3 fo de y n12 (by omega)) (cwV 1 hts gX6_block_X6_isBlock rfl rfl rfl (by decide +kernel) (by rw [hR]; exact ⟨Nat.le_of_ble_eq_true rfl, Nat.le_of_ble_eq_true rfl⟩)) ⟨zB_blind, va_recv hK hP (ci := 6) (q0 := 0) rfl rfl, zp_r hP hK hN⟩ rfl rfl hl.1 rfl (lv_room (Nat.le_of_ble_eq_true rfl)) dX6_block_2 ⟨Nat.zero_le _, Nat.zero_le _⟩).run ?_
  refine zb_if_eq (tgt := 17)  hx hb dX6_block_5 (by decide)  (fun c5 => ?_) (fun c5 => ?_)
  · refine lv_sipush (v := (-1001)) hx hb dX6_block_17 (by decide) ?_
    exact zr_i hx hb hr hlk hQ dX6_block_20 (rfl)
  · refine lv_iload_n hx hb dX6_block_8 rfl (lv_at hl 2 rfl) ?_
    refine lv_iconst (v := (nI 0)) hx hb dX6_block_9 (by decide) ?_
    refine lv_iconst (v := (nI 4)) hx hb dX6_block_10 (by decide) ?_
    refine zc_r (va_runS (As := [.int (x), .int (nI 0), .int (nI 4)]) (rest := []) ⟨hx, hb, hml, hown, hts⟩ (c_X6_in l D Y  x ((nI 0)) ((nI 4)) ) (va_cwS 3 hts gX6_block_X6_in rfl rfl rfl (by decide +kernel) (by rw [hR]; exact ⟨Nat.le_of_ble_eq_true rfl, Nat.le_of_ble_eq_true rfl⟩)) ⟨zB_blind, (zp_r (v := [.int (x), .int (nI 0), .int (nI 4)]) (fun k q h => absurd h (by simp)) hK hN)⟩ rfl rfl hl.1 rfl (lv_room (Nat.le_of_ble_eq_true rfl)) dX6_block_11 ⟨Nat.zero_le _, Nat.zero_le _⟩).run ?_
    have h11a : ((nI 0)).toInt = _ := zt_n (by omega)
    have h11b : ((nI 4)).toInt = _ := zt_n (by omega)
    refine zb_if_ne (tgt := 21)  hx hb dX6_block_14 (by decide)  (fun c14 => ?_) (fun c14 => ?_)
    · exact absurd c14 (by omega)
    · refine lv_sipush (v := (-1001)) hx hb dX6_block_17 (by decide) ?_
      exact zr_i hx hb hr hlk hQ dX6_block_20 (rfl)
theorem qX6_block_Cond_fieldLink_RX6_36_NestedCodesModel_its_I_ : Cond.fieldLink RX6 36 "NestedCodesModel" "its" "[I" ∈ wsX6_block := by decide +kernel
theorem qX6_block_inX6 : ∀ w ∈ wsX60, w ∈ wsX6_block := by decide +kernel
theorem qX6_block_Cond_fieldLink_RX6_23_NestedCodesModel_code_B_ : Cond.fieldLink RX6 23 "NestedCodesModel" "code" "[B" ∈ wsX6_block := by decide +kernel
theorem qX6_block_Cond_fieldLink_RX6_7_NestedCodesModel_d_I_ : Cond.fieldLink RX6 7 "NestedCodesModel" "d" "[I" ∈ wsX6_block := by decide +kernel
theorem qX6_block_Cond_fieldLink_RX6_39_NestedCodesModel_far_I_ : Cond.fieldLink RX6 39 "NestedCodesModel" "far" "[I" ∈ wsX6_block := by decide +kernel
theorem qX6_block_Cond_fieldLink_RX6_42_NestedCodesModel_trust_I_ : Cond.fieldLink RX6 42 "NestedCodesModel" "trust" "[I" ∈ wsX6_block := by decide +kernel
set_option maxHeartbeats 4000000 in
set_option maxRecDepth 100000 in
theorem c_X6_block (l : Launch) (D : va_G) (Y : Nat → ClassId) (A : Nat → Nat) (σ : Nat → Nat) (hf : Nat → Nat) (hn : Nat) (wt : Nat → Nat) (wn : Nat) (sy : Nat → Nat) (gp : Nat → Nat) (i0 : Nat → Nat) (i1 : Nat → Nat) (i2 : Nat → Nat) (i3 : Nat → Nat) (fo : Int32) (de : Int32) (j : Nat) (x : Int32)  (kσ : zWF σ) (ksy : ∀ w9, w9 < 2 ^ (σ 2) → sy w9 = syS σ w9) (kgp : ∀ w9, w9 < 2 ^ (σ 2) → gp w9 = gpS σ w9) (hj : j < σ 0) (hx0 : 0 ≤ (x).toInt) (hx4 : (x).toInt ≤ 4) : Met l yX6_block wsX6_block ({ frames := 2, cells := 0, slots := 0, locals := 43 } : Room) (va_Pc [.ref (A 0), .int (nI j), .int (x)] (zBw D Y (MX Y A σ hf hn wt wn tmS cdS (wdS σ) sy gp (ddS σ) i0 i1 i2 i3 fo de))) (zW (some (.int (blockV σ (nI j).toInt (x).toInt))) D (MX Y A σ hf hn wt wn tmS cdS (wdS σ) sy gp (ddS σ) (ag0 σ i0) (ag1 σ i1) (ag2 σ i2) (insI (trS σ) i3 (σ 0)) fo de) (zA (MX Y A σ hf hn wt wn tmS cdS (wdS σ) sy gp (ddS σ) i0 i1 i2 i3 fo de))) 0 0 (zA (MX Y A σ hf hn wt wn tmS cdS (wdS σ) sy gp (ddS σ) i0 i1 i2 i3 fo de)) := by
  refine zw_of (cc := cX6_block) (maxL := 3) (ret := (some .int)) (by decide) rfl (Nat.le_of_ble_eq_true rfl) ?_
  intro p e s m below meth c R args Q FA hR hx hb hml hr hlk hown hts hK hN hQ hP hD hS ls hl
  have hown : s.vm.findClass RX6 = some m.cls := hown
  have hl : lv_has ls 3 [(0, .ref (A 0)), (1, .int (nI j)), (2, .int (x))] := hl
  have hS := hS
  have kw := kσ
  obtain ⟨n3, n12, d1, d3, dn, b4, b10, gl, lm, sn, wl, wnz⟩ := kw
  have pb := zp_b b10
  have pk9 := zp_k d3
  suffices hgo : ∀ (H : Heap) (locs : List Loc), va_P D vwCl (MX Y A σ hf hn wt wn tmS cdS (wdS σ) sy gp (ddS σ) i0 i1 i2 i3 fo de) H → va_S FA s.heap H locs → W p l e R s m args below meth c H locs 0 0 Q (F0 m 0 ls []) from hgo _ _ hP hS
  clear hP hS
  intro H locs hP hS
  refine lv_aload_n hx hb dX6_block_0 rfl (lv_at hl 0 rfl) ?_
  refine lv_iload_n hx hb dX6_block_1 rfl (lv_at hl 1 rfl) ?_
  refine zc_r (va_runV (As := [.int (nI j)]) (rest := []) ⟨hx, hb, hml, hown, hts⟩ (c_X6_isBlock l D Y A σ hf hn wt wn tmS cdS (wdS σ) sy gp (ddS σ) i0 i1 i2 i3 fo de ((nI j)) n12 (by omega)) (cwV 1 hts gX6_block_X6_isBlock rfl rfl rfl (by decide +kernel) (by rw [hR]; exact ⟨Nat.le_of_ble_eq_true rfl, Nat.le_of_ble_eq_true rfl⟩)) ⟨zB_blind, va_recv hK hP (ci := 6) (q0 := 0) rfl rfl, zp_r hP hK hN⟩ rfl rfl hl.1 rfl (lv_room (Nat.le_of_ble_eq_true rfl)) dX6_block_2 ⟨Nat.zero_le _, Nat.zero_le _⟩).run ?_
  refine zb_if_eq (tgt := 17)  hx hb dX6_block_5 (by decide)  (fun c5 => ?_) (fun c5 => ?_)
  · exact absurd ⟨by rw [zt_n (by omega)]; omega, by rw [zt_n (by omega)]; omega⟩ c5
  · refine lv_iload_n hx hb dX6_block_8 rfl (lv_at hl 2 rfl) ?_
    refine lv_iconst (v := (nI 0)) hx hb dX6_block_9 (by decide) ?_
    refine lv_iconst (v := (nI 4)) hx hb dX6_block_10 (by decide) ?_
    refine zc_r (va_runS (As := [.int (x), .int (nI 0), .int (nI 4)]) (rest := []) ⟨hx, hb, hml, hown, hts⟩ (c_X6_in l D Y  x ((nI 0)) ((nI 4)) ) (va_cwS 3 hts gX6_block_X6_in rfl rfl rfl (by decide +kernel) (by rw [hR]; exact ⟨Nat.le_of_ble_eq_true rfl, Nat.le_of_ble_eq_true rfl⟩)) ⟨zB_blind, (zp_r (v := [.int (x), .int (nI 0), .int (nI 4)]) (fun k q h => absurd h (by simp)) hK hN)⟩ rfl rfl hl.1 rfl (lv_room (Nat.le_of_ble_eq_true rfl)) dX6_block_11 ⟨Nat.zero_le _, Nat.zero_le _⟩).run ?_
    have h11a : ((nI 0)).toInt = _ := zt_n (by omega)
    have h11b : ((nI 4)).toInt = _ := zt_n (by omega)
    refine zb_if_ne (tgt := 21)  hx hb dX6_block_14 (by decide)  (fun c14 => ?_) (fun c14 => ?_)
    · refine lv_aload_n hx hb dX6_block_21 rfl (lv_at hl 0 rfl) ?_
      refine zc_w (va_runV (As := []) (rest := []) ⟨hx, hb, hml, hown, hts⟩ (c_X6_judges l D Y A σ hf hn wt wn sy gp i0 i1 i2 i3 fo de  kσ ksy kgp) (cwV 0 hts gX6_block_X6_judges rfl rfl rfl (by decide +kernel) (by rw [hR]; exact ⟨Nat.le_of_ble_eq_true rfl, Nat.le_of_ble_eq_true rfl⟩)) ⟨zBw_blind, va_recv hK hP (ci := 6) (q0 := 0) rfl rfl, zp_w hP hD hK hN⟩ rfl rfl hl.1 rfl (lv_room (Nat.le_of_ble_eq_true rfl)) dX6_block_22 ⟨Nat.zero_le _, Nat.zero_le _⟩).run hS (zA_of hD) (fun H locs hP hz hk hS => ?_)
      have hD : va_D FA (MX Y A σ hf hn wt wn tmS cdS (wdS σ) sy gp (ddS σ) (ag0 σ i0) (ag1 σ i1) (ag2 σ i2) (insI (trS σ) i3 (σ 0)) fo de) := MX_dd hD
      have kj := jCon_ju σ i0 i1 i2 i3
      refine lv_iload_n hx hb dX6_block_25 rfl (lv_at hl 2 rfl) ?_
      have hsw26 : (x).toInt < 0 ∨ (x).toInt = 0 ∨ (x).toInt = 1 ∨ (x).toInt = 2 ∨ (x).toInt = 3 ∨ 3 < (x).toInt := by omega
      rcases hsw26 with c26 | c26 | c26 | c26 | c26 | c26
      · refine lv_tableOut (tgt := 83) hx hb dX6_block_26 (by omega) (by decide) ?_
        refine lv_aload_n hx hb dX6_block_83 rfl (lv_at hl 0 rfl) ?_
        refine va_get (D := D) (ci := 6) (v := .ref (A 9)) (C := RX6) (T := TX6) (N := 17) hx hb hts qX6_block_inX6 hown hK hP 0 rfl rfl 11 (by decide) (hts _ qX6_block_Cond_fieldLink_RX6_36_NestedCodesModel_its_I_) (fun _ h9 => h9) rfl dX6_block_84 ?_
        refine lv_iload_n hx hb dX6_block_87 rfl (lv_at hl 1 rfl) ?_
        refine za_i hx hb hK hP 9 (f := fun k9 => nI ((ag0 σ i0) k9)) (v := (nI (itS σ j))) rfl (by omega) (by decide) dX6_block_88 (congrArg nI (kj j hj).1) ?_
        refine lv_aload_n hx hb dX6_block_89 rfl (lv_at hl 0 rfl) ?_
        refine va_get (D := D) (ci := 6) (v := .ref (A 5)) (C := RX6) (T := TX6) (N := 17) hx hb hts qX6_block_inX6 hown hK hP 0 rfl rfl 6 (by decide) (hts _ qX6_block_Cond_fieldLink_RX6_23_NestedCodesModel_code_B_) (fun _ h9 => h9) rfl dX6_block_90 ?_
        refine lv_bipush (v := (nI 12)) hx hb dX6_block_93 (by decide) ?_
        refine lv_aload_n hx hb dX6_block_95 rfl (lv_at hl 0 rfl) ?_
        refine va_get (D := D) (ci := 6) (v := .ref (A 1)) (C := RX6) (T := TX6) (N := 17) hx hb hts qX6_block_inX6 hown hK hP 0 rfl rfl 0 (by decide) (hts _ qX6_block_Cond_fieldLink_RX6_7_NestedCodesModel_d_I_) (fun _ h9 => h9) rfl dX6_block_96 ?_
        refine lv_bipush (v := (nI 8)) hx hb dX6_block_99 (by decide) ?_
        refine za_i hx hb hK hP 1 (f := fun k9 => nI (σ k9)) (v := (nI (σ 8))) rfl (by omega) (by decide) dX6_block_101 (rfl) ?_
        refine zv_imul hx hb (v := (nI (12 * (σ 8)))) dX6_block_102 (pk_mul _ _) ?_
        refine lv_iload_n hx hb dX6_block_103 rfl (lv_at hl 1 rfl) ?_
        refine zv_iadd hx hb (v := (nI ((12 * (σ 8)) + j))) dX6_block_104 (nI_add _ _) ?_
        refine za_b hx hb hK hP 5 (f := fun k9 => nI (cdS k9)) (v := (nI (zcw (σ 8) j))) rfl (by omega) (by decide) dX6_block_105 (congrArg nI (cdS_at (σ 8) (by omega))) ?_
        have hit := itS_lt σ j
        have hzc : zcw (σ 8) j < 16 := zcw_lt (by omega) (by omega)
        refine zn_icmp_ne (tgt := 113)  hx hb dX6_block_106 (by decide) (by omega) (by omega) (fun c106 => ?_) (fun c106 => ?_)
        · refine lv_iconst (v := (nI 0)) hx hb dX6_block_113 (by decide) ?_
          exact zw_i hx hb hr hlk hQ hS dX6_block_114 (by unfold blockV; rw [if_pos (by rw [zt_n (by omega)]; omega), zToI (by omega), show (x).toInt = 4 by omega]; show _ = (if itS σ j = zcw (σ 8) j then nI 1 else nI 0); rw [if_neg (by omega)]) (hP)
        · refine lv_iconst (v := (nI 1)) hx hb dX6_block_109 (by decide) ?_
          refine lv_goto (tgt := 114) hx hb dX6_block_110 (by decide) ?_
          exact zw_i hx hb hr hlk hQ hS dX6_block_114 (by unfold blockV; rw [if_pos (by rw [zt_n (by omega)]; omega), zToI (by omega), show (x).toInt = 4 by omega]; show _ = (if itS σ j = zcw (σ 8) j then nI 1 else nI 0); rw [if_pos (by omega)]) (hP)
      · refine lv_tableIn (off := 30) (tgt := 56) hx hb dX6_block_26 (by omega) (by omega) (by rw [c26]; rfl) (by decide) ?_
        refine lv_aload_n hx hb dX6_block_56 rfl (lv_at hl 0 rfl) ?_
        refine va_get (D := D) (ci := 6) (v := .ref (A 9)) (C := RX6) (T := TX6) (N := 17) hx hb hts qX6_block_inX6 hown hK hP 0 rfl rfl 11 (by decide) (hts _ qX6_block_Cond_fieldLink_RX6_36_NestedCodesModel_its_I_) (fun _ h9 => h9) rfl dX6_block_57 ?_
        refine lv_iload_n hx hb dX6_block_60 rfl (lv_at hl 1 rfl) ?_
        refine za_i hx hb hK hP 9 (f := fun k9 => nI ((ag0 σ i0) k9)) (v := (nI (itS σ j))) rfl (by omega) (by decide) dX6_block_61 (congrArg nI (kj j hj).1) ?_
        exact zw_i hx hb hr hlk hQ hS dX6_block_62 (by unfold blockV; rw [if_pos (by rw [zt_n (by omega)]; omega), zToI (by omega), c26]; rfl) (hP)
      · refine lv_tableIn (off := 37) (tgt := 63) hx hb dX6_block_26 (by omega) (by omega) (by rw [c26]; rfl) (by decide) ?_
        refine lv_aload_n hx hb dX6_block_63 rfl (lv_at hl 0 rfl) ?_
        refine va_get (D := D) (ci := 6) (v := .ref (A 10)) (C := RX6) (T := TX6) (N := 17) hx hb hts qX6_block_inX6 hown hK hP 0 rfl rfl 12 (by decide) (hts _ qX6_block_Cond_fieldLink_RX6_39_NestedCodesModel_far_I_) (fun _ h9 => h9) rfl dX6_block_64 ?_
        refine lv_iload_n hx hb dX6_block_67 rfl (lv_at hl 1 rfl) ?_
        refine za_i hx hb hK hP 10 (f := fun k9 => nI ((ag1 σ i1) k9)) (v := (nI (faS σ j))) rfl (by omega) (by decide) dX6_block_68 (congrArg nI (kj j hj).2.1) ?_
        exact zw_i hx hb hr hlk hQ hS dX6_block_69 (by unfold blockV; rw [if_pos (by rw [zt_n (by omega)]; omega), zToI (by omega), c26]; rfl) (hP)
      · refine lv_tableIn (off := 44) (tgt := 70) hx hb dX6_block_26 (by omega) (by omega) (by rw [c26]; rfl) (by decide) ?_
        refine lv_aload_n hx hb dX6_block_70 rfl (lv_at hl 0 rfl) ?_
        refine va_get (D := D) (ci := 6) (v := .ref (A 11)) (C := RX6) (T := TX6) (N := 17) hx hb hts qX6_block_inX6 hown hK hP 0 rfl rfl 13 (by decide) (hts _ qX6_block_Cond_fieldLink_RX6_42_NestedCodesModel_trust_I_) (fun _ h9 => h9) rfl dX6_block_71 ?_
        refine lv_iload_n hx hb dX6_block_74 rfl (lv_at hl 1 rfl) ?_
        refine za_i hx hb hK hP 11 (f := fun k9 => nI ((ag2 σ i2) k9)) (v := (nI (trS σ j))) rfl (by omega) (by decide) dX6_block_75 (congrArg nI (kj j hj).2.2.1) ?_
        exact zw_i hx hb hr hlk hQ hS dX6_block_76 (by unfold blockV; rw [if_pos (by rw [zt_n (by omega)]; omega), zToI (by omega), c26]; rfl) (hP)
      · refine lv_tableIn (off := 51) (tgt := 77) hx hb dX6_block_26 (by omega) (by omega) (by rw [c26]; rfl) (by decide) ?_
        refine lv_aload_n hx hb dX6_block_77 rfl (lv_at hl 0 rfl) ?_
        refine lv_iload_n hx hb dX6_block_78 rfl (lv_at hl 1 rfl) ?_
        refine zc_r (va_runV (As := [.int (nI j)]) (rest := []) ⟨hx, hb, hml, hown, hts⟩ (c_X6_placeOf l D Y A σ hf hn wt wn sy gp (ag0 σ i0) (ag1 σ i1) (ag2 σ i2) (insI (trS σ) i3 (σ 0)) fo de j kσ kj (by omega)) (cwV 1 hts gX6_block_X6_placeOf rfl rfl rfl (by decide +kernel) (by rw [hR]; exact ⟨Nat.le_of_ble_eq_true rfl, Nat.le_of_ble_eq_true rfl⟩)) ⟨zB_blind, va_recv hK hP (ci := 6) (q0 := 0) rfl rfl, zp_r hP hK hN⟩ rfl rfl hl.1 rfl (lv_room (Nat.le_of_ble_eq_true rfl)) dX6_block_79 ⟨Nat.zero_le _, Nat.zero_le _⟩).run ?_
        have hpl79 := plS_lt σ (j := j) (by omega)
        exact zw_i hx hb hr hlk hQ hS dX6_block_82 (by unfold blockV; rw [if_pos (by rw [zt_n (by omega)]; omega), zToI (by omega), c26]; rfl) (hP)
      · refine lv_tableOut (tgt := 83) hx hb dX6_block_26 (by omega) (by decide) ?_
        refine lv_aload_n hx hb dX6_block_83 rfl (lv_at hl 0 rfl) ?_
        refine va_get (D := D) (ci := 6) (v := .ref (A 9)) (C := RX6) (T := TX6) (N := 17) hx hb hts qX6_block_inX6 hown hK hP 0 rfl rfl 11 (by decide) (hts _ qX6_block_Cond_fieldLink_RX6_36_NestedCodesModel_its_I_) (fun _ h9 => h9) rfl dX6_block_84 ?_
        refine lv_iload_n hx hb dX6_block_87 rfl (lv_at hl 1 rfl) ?_
        refine za_i hx hb hK hP 9 (f := fun k9 => nI ((ag0 σ i0) k9)) (v := (nI (itS σ j))) rfl (by omega) (by decide) dX6_block_88 (congrArg nI (kj j hj).1) ?_
        refine lv_aload_n hx hb dX6_block_89 rfl (lv_at hl 0 rfl) ?_
        refine va_get (D := D) (ci := 6) (v := .ref (A 5)) (C := RX6) (T := TX6) (N := 17) hx hb hts qX6_block_inX6 hown hK hP 0 rfl rfl 6 (by decide) (hts _ qX6_block_Cond_fieldLink_RX6_23_NestedCodesModel_code_B_) (fun _ h9 => h9) rfl dX6_block_90 ?_
        refine lv_bipush (v := (nI 12)) hx hb dX6_block_93 (by decide) ?_
        refine lv_aload_n hx hb dX6_block_95 rfl (lv_at hl 0 rfl) ?_
        refine va_get (D := D) (ci := 6) (v := .ref (A 1)) (C := RX6) (T := TX6) (N := 17) hx hb hts qX6_block_inX6 hown hK hP 0 rfl rfl 0 (by decide) (hts _ qX6_block_Cond_fieldLink_RX6_7_NestedCodesModel_d_I_) (fun _ h9 => h9) rfl dX6_block_96 ?_
        refine lv_bipush (v := (nI 8)) hx hb dX6_block_99 (by decide) ?_
        refine za_i hx hb hK hP 1 (f := fun k9 => nI (σ k9)) (v := (nI (σ 8))) rfl (by omega) (by decide) dX6_block_101 (rfl) ?_
        refine zv_imul hx hb (v := (nI (12 * (σ 8)))) dX6_block_102 (pk_mul _ _) ?_
        refine lv_iload_n hx hb dX6_block_103 rfl (lv_at hl 1 rfl) ?_
        refine zv_iadd hx hb (v := (nI ((12 * (σ 8)) + j))) dX6_block_104 (nI_add _ _) ?_
        refine za_b hx hb hK hP 5 (f := fun k9 => nI (cdS k9)) (v := (nI (zcw (σ 8) j))) rfl (by omega) (by decide) dX6_block_105 (congrArg nI (cdS_at (σ 8) (by omega))) ?_
        have hit := itS_lt σ j
        have hzc : zcw (σ 8) j < 16 := zcw_lt (by omega) (by omega)
        refine zn_icmp_ne (tgt := 113)  hx hb dX6_block_106 (by decide) (by omega) (by omega) (fun c106 => ?_) (fun c106 => ?_)
        · refine lv_iconst (v := (nI 0)) hx hb dX6_block_113 (by decide) ?_
          exact zw_i hx hb hr hlk hQ hS dX6_block_114 (by unfold blockV; rw [if_pos (by rw [zt_n (by omega)]; omega), zToI (by omega), show (x).toInt = 4 by omega]; show _ = (if itS σ j = zcw (σ 8) j then nI 1 else nI 0); rw [if_neg (by omega)]) (hP)
        · refine lv_iconst (v := (nI 1)) hx hb dX6_block_109 (by decide) ?_
          refine lv_goto (tgt := 114) hx hb dX6_block_110 (by decide) ?_
          exact zw_i hx hb hr hlk hQ hS dX6_block_114 (by unfold blockV; rw [if_pos (by rw [zt_n (by omega)]; omega), zToI (by omega), show (x).toInt = 4 by omega]; show _ = (if itS σ j = zcw (σ 8) j then nI 1 else nI 0); rw [if_pos (by omega)]) (hP)
    · exact absurd c14 (by omega)
