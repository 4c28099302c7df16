/-! the law's own methods: contracts whose world behind them is told by a property -/
def zEh (v : Option Value) (P : (Nat → Prop) → Heap → Prop) (A : Nat → Prop) : Array Value → State → Outcome → State → Prop := fun _ st oc t => oc = .returned v ∧ P A t.heap ∧ va_F A st t
theorem ze_of {l : Launch} {y : MethodName} {ws ws' : List Cond} {rm : Room} {D : va_G} {Y : Nat → ClassId} {av : List Value} {wc : va_W} {P : (Nat → Prop) → Heap → Prop} {v : Option Value} {cc : ByteArray} {maxL : Nat} {ret : Option FieldType} (hy : plainName y.cls = true) (hw : ws = Cond.code y cc maxL ret :: ws') (hL : (lg_sl av).length ≤ maxL)
    (body : ∀ (p : Program) (e : Env) (s : State) (m : MethodId) (below : List Frame) (meth : Method) (c : Code) (R : Room) (args : Array Value) (Q : State → Prop) (A : Nat → Prop), R = rm → p.tables.exec = Jvm.exec → c.code = cc → c.maxLocals = maxL → meth.sig.returnType = ret → meth.locks = false → s.vm.findClass y.cls = some m.cls → (∀ w ∈ ws, w.before args s = true) → va_K D vwCl (zT Y) s → zNw s → Q = MQ below (zEh v P A) args s 0 0 A → va_P D vwCl wc s.heap → va_D A wc → va_S A s.heap s.heap [] → ∀ ls : Array Slot, lv_has ls maxL (lv_args 0 av) → W p l e R s m args below meth c s.heap [] 0 0 Q (F0 m 0 ls [])) :
    Met l y ws rm (va_Pc av (zBw D Y wc)) (zEh v P (zA wc)) 0 0 (zA wc) := by
  refine Met.ofW (cc := cc) (maxL := maxL) (ret := ret) hy hw ?_
  intro p e s m args below meth c s₁ B hml hv
  obtain ⟨rfl, ⟨hP, hK, hN⟩, hD⟩ := hv
  have hl := lv_entry av (n := maxL) hL
  rw [lg_entry_eq]
  generalize (lg_sl av ++ List.replicate (maxL - (lg_sl av).length) Slot.unset).toArray = ls at hl ⊢
  exact body p e s m below meth c _ _ _ (zA wc) rfl B.exec B.bytes hml B.returns B.notSynchronized (findClass_of_methodNamed B.named) (atoms_spec (ws := ws) B.pre) hK hN rfl hP (zD_self hD) va_S.rf ls hl
/-- the script, as a method of the law gets it -/
def zXp (b L : Nat) (xs : Nat → Int32) (U : State) : Prop := va_X b L xs U U.heap
theorem zX_blind {b L : Nat} {xs : Nat → Int32} {av : List Value} : FrameBlind (va_Pc av (zXp b L xs)) := fun a U g mk q => by
  obtain ⟨q0, q1⟩ := q
  exact ⟨q0, va_X.moved (u := U) (U := U.calling g mk a) (Vm.Alike.refl U.vm) q1⟩
def celV (L : Nat) (xs : Nat → Int32) (k : Nat) : Nat := if k < L then (xs k).toBitVec.toNat % 2147483648 else (15485959 * k + 109) % 2147483648
theorem celV_lt (L : Nat) (xs : Nat → Int32) (k : Nat) : celV L xs k < 2147483648 := by
  unfold celV
  split
  · exact Nat.mod_lt _ (by decide)
  · exact Nat.mod_lt _ (by decide)
theorem and_31 (x : Int32) : x &&& nI 2147483647 = nI (x.toBitVec.toNat % 2147483648) := by
  apply Int32.toBitVec_inj.mp
  rw [Int32.toBitVec_and]
  apply BitVec.eq_of_toNat_eq
  have e1 : (nI 2147483647).toBitVec.toNat = 2147483647 := by decide
  have e2 : (nI (x.toBitVec.toNat % 2147483648)).toBitVec = BitVec.ofNat 32 (x.toBitVec.toNat % 2147483648) := rfl
  rw [BitVec.toNat_and, e1, e2, BitVec.toNat_ofNat, show (2147483647 : Nat) = 2 ^ 31 - 1 from rfl, Nat.and_two_pow_sub_one_eq_mod]
  have := Nat.mod_lt x.toBitVec.toNat (show 0 < 2147483648 by decide)
  exact (Nat.mod_eq_of_lt (show x.toBitVec.toNat % 2147483648 < 2 ^ 32 by omega)).symm
theorem and_31n (a : Nat) : nI a &&& nI 2147483647 = nI (a % 2147483648) := by
  rw [nx_and, show (2147483647 : Nat) = 2 ^ 31 - 1 from rfl, Nat.and_two_pow_sub_one_eq_mod]
section EROWS
variable {p : Program} {l : Launch} {e : Env} {R : Room} {s : State} {m : MethodId} {args : Array Value} {below : List Frame} {meth : Method} {c : Code} {H : Heap} {locs : List Loc} {cells slots : Nat} {Q : State → Prop} {cc : ByteArray} {pc : Nat} {ls : Array Slot} {rest : List Value} {A : Nat → Prop} {H0 : Heap} {D : va_G} {Y : Nat → ClassId} {ws : va_W} {a : Nat} {P : (Nat → Prop) → Heap → Prop}
theorem ze_z {v r : Int32} (hx : p.tables.exec = Jvm.exec) (hb : c.code = cc) (hr : meth.sig.returnType = some .boolean) (hlk : meth.locks = false) (hQ : Q = MQ below (zEh (some (.int v)) P A) args s 0 0 A) (hS : va_S A s.heap H locs) (hdg : decode cc pc = .ok (.ireturn, 1)) (hv : r = v) (hn : r = 0 ∨ r = 1) (hE : P A H) : W p l e R s m args below meth c H locs 0 0 Q (F0 m pc ls [.int r]) := by
  subst hQ; subst hv
  exact W.zret hx hb hr (by rcases hn with rfl | rfl <;> rfl) (fun t ht hW => ⟨rfl, by rw [ht]; exact hE, hS.F ht⟩) hS.2.2 hdg hlk
theorem zc_e {v : Option Value} {st : List Value} {aa : Array Value} {wc : va_W} (hr : CallRun p l e R s m args below meth c H locs cells slots 0 0 (F0 m pc ls st) rest (zEh v P (zA wc) aa) (zA wc)) (hS : va_S A H0 H locs) (hf : ∀ q, zA wc q → A q)
    (kk : ∀ (H1 : Heap) (locs1 : List Loc), P (zA wc) H1 → va_S A H0 H1 locs1 → W p l e R s m args below meth c H1 locs1 cells slots Q (F0 m (pc + 3) ls (v.toList ++ rest))) : W p l e R s m args below meth c H locs cells slots Q (F0 m pc ls st) := by
  intro T hT X
  obtain ⟨v', st₀, t, T', L, h0, X', hL, e1, ⟨hv, hp, hz, hk⟩, st'⟩ := hr T hT X
  cases hv
  rw [h0] at hz hk
  obtain ⟨t2, a1, b1⟩ := kk T'.heap (locs ++ L) (by rw [e1]; exact hp)
    ⟨Nat.le_trans hS.1 (by rw [e1]; exact hz), fun q h1 h2 => by rw [e1, hk q (Nat.lt_of_lt_of_le h1 hS.1) (fun z => h2 (hf q z))]; exact hS.2.1 q h1 h2, fun q hq => by
      rcases List.mem_append.mp hq with h | h
      · exact hS.2.2 q h
      · exact hf _ (hL q h)⟩ T' rfl X'
  exact ⟨t2, st' t2 a1, b1⟩
theorem zp_X {b L : Nat} {xs : Nat → Int32} {v : List Value} (hX : va_X b L xs s H0) (hbl : b < H0.size) (hbA : ¬ A b) (hS : va_S A H0 H locs) : ∀ U : State, U.heap = H → s.WarmedH U.vm → va_Pc v (zXp b L xs) v.toArray U := fun U hU hW => ⟨rfl, by
  show va_X b L xs U U.heap
  rw [hU]
  exact va_X.moved hW.alike (hX.kept (hS.2.1 b hbl hbA))⟩
theorem zl_sld (hx : p.tables.exec = Jvm.exec) (hb : c.code = cc) {b L : Nat} {xs : Nat → Int32} (hX : va_X b L xs s H0) (hbl : b < H0.size) (hbA : ¬ A b) (hS : va_S A H0 H locs) {n : Nat} (hn : n < L) (hL : L < 2147483648) {v : Int32} (hv : xs n = v) (hdg : decode cc pc = .ok (.iaload, 1))
    (kk : W p l e R s m args below meth c H locs cells slots Q (F0 m (pc + 1) ls (.int v :: rest))) : W p l e R s m args below meth c H locs cells slots Q (F0 m pc ls (.int (nI n) :: .ref b :: rest)) :=
  va_sld hx hb hX hbl hbA hS (vp_in_nI hn hL) hdg (by rw [nI_clamp (by omega), hv]; exact kk)
end EROWS
theorem qL_cell_c1 : Cond.constant RL 7 (15485959) ∈ wsL_cell := by decide +kernel
theorem qL_cell_c2 : Cond.constant RL 8 (2147483647) ∈ wsL_cell := by decide +kernel
set_option maxHeartbeats 4000000 in
theorem c_L_cell (l : Launch) (b L : Nat) (xs : Nat → Int32) (k : Nat) (hk : k < 2147483648) (hL : L ≤ 260) : Met l yL_cell wsL_cell ({ frames := 0, cells := 0, slots := 0, locals := 0 } : Room) (va_Pc [.ref b, .int (nI k)] (zXp b L xs)) (zR (.int (nI (celV L xs k)))) 0 0 (fun _ => False) := by
  refine Met.ofW (cc := cL_cell) (maxL := 2) (ret := some .int) (by decide) rfl ?_
  intro p e s m args below meth c s₁ B hml hv
  obtain ⟨rfl, hX⟩ := hv
  have hX : va_X b L xs s s.heap := hX
  have hl := lv_entry [.ref b, .int (nI k)] (n := 2) (Nat.le_of_ble_eq_true rfl)
  rw [lg_entry_eq]
  generalize (lg_sl [.ref b, .int (nI k)] ++ List.replicate (2 - (lg_sl [.ref b, .int (nI k)]).length) Slot.unset).toArray = ls at hl ⊢
  have hl : lv_has ls 2 [(0, .ref b), (1, .int (nI k))] := hl
  have hx := B.exec
  have hb := B.bytes
  have hr := B.returns
  have hlk := B.notSynchronized
  have hown : s.vm.findClass RL = some m.cls := findClass_of_methodNamed B.named
  have hts := atoms_spec (ws := wsL_cell) B.pre
  have hS : va_S (fun _ => False) s.heap s.heap [] := va_S.rf
  have hbl : b < s.heap.size := by
    obtain ⟨scr, h1, -⟩ := hX
    exact (Array.getElem?_eq_some_iff.mp h1).1
  have J : ∀ (ls : Array Slot) (x : Int32), x &&& nI 2147483647 = nI (celV L xs k) → W p l e ({ frames := 0, cells := 0, slots := 0, locals := 0 } : Room) s m ([Value.ref b, Value.int (nI k)] : List Value).toArray below meth c s.heap [] 0 0 (MQ below (zR (.int (nI (celV L xs k)))) ([Value.ref b, Value.int (nI k)] : List Value).toArray s 0 0 (fun _ => False)) (F0 m 19 ls [.int x]) := by
    intro ls x hv
    refine lv_ldc hx hb hown (hts _ qL_cell_c2) dL_cell_19 ?_
    refine zt_i (v := nI 2147483647) (by rfl) ?_
    refine zv_iand hx hb (v := nI (celV L xs k)) dL_cell_21 hv ?_
    exact zr_i hx hb hr hlk rfl dL_cell_22 rfl
  refine lv_iload_n hx hb dL_cell_0 rfl (lv_at hl 1 rfl) ?_
  refine lv_aload_n hx hb dL_cell_1 rfl (lv_at hl 0 rfl) ?_
  refine va_slen hx hb hX hbl (fun h => h) hS dL_cell_2 ?_
  refine zt_i (v := nI L) (by rfl) ?_
  refine zn_icmp_ge (tgt := 12) hx hb dL_cell_3 (by decide) (by omega) (by omega) (fun c3 => ?_) (fun c3 => ?_)
  · refine lv_ldc hx hb hown (hts _ qL_cell_c1) dL_cell_12 ?_
    refine zt_i (v := nI 15485959) (by rfl) ?_
    refine lv_iload_n hx hb dL_cell_14 rfl (lv_at hl 1 rfl) ?_
    refine zv_imul hx hb (v := nI (15485959 * k)) dL_cell_15 (pk_mul _ _) ?_
    refine lv_bipush (v := nI 109) hx hb dL_cell_16 (by decide) ?_
    refine zv_iadd hx hb (v := nI (15485959 * k + 109)) dL_cell_18 (nI_add _ _) ?_
    exact J ls _ (by unfold celV; rw [if_neg (by omega)]; exact and_31n _)
  · refine lv_aload_n hx hb dL_cell_6 rfl (lv_at hl 0 rfl) ?_
    refine lv_iload_n hx hb dL_cell_7 rfl (lv_at hl 1 rfl) ?_
    refine zl_sld hx hb hX hbl (fun h => h) hS (n := k) (by omega) (by omega) (v := xs k) rfl dL_cell_8 ?_
    refine lv_goto (tgt := 19) hx hb dL_cell_9 (by decide) ?_
    exact J ls _ (by unfold celV; rw [if_pos (by omega)]; exact and_31 _)
/-! what holds of the class's cells between two calls -/
def zI5 (σ : Nat → Nat) (hn : Nat) (h : Nat → Nat → Nat) (r0 r1 r2 r3 r4 : Nat → Nat) : Prop := zWF σ ∧ zCon σ r0 r1 r2 r3 r4 ∧ hn ≤ 6 ∧ ∀ i, i < hn → zWF (h i)
def CXk (Y : Nat → ClassId) (A B σ : Nat → Nat) (hn : Nat) (h : Nat → Nat → Nat) (r0 r1 r2 r3 r4 wt : Nat → Nat) (wn : Nat) : va_W := CX Y A B σ hn h (wdS σ) (ddS σ) r0 r1 r2 r3 r4 (σ 0) (pak (itC (wdS σ) σ) (σ 0)) (mkP (fun k9 => decide (k9 < σ 0))) wt wn
def zS5 (D : va_G) (Y : Nat → ClassId) (A σ wt : Nat → Nat) (wn : Nat) (F : Nat → Prop) (H : Heap) : Prop := ∃ (B : Nat → Nat) (hn : Nat) (h : Nat → Nat → Nat) (r0 r1 r2 r3 r4 : Nat → Nat), zI5 σ hn h r0 r1 r2 r3 r4 ∧ va_P D vwCl (CXk Y A B σ hn h r0 r1 r2 r3 r4 wt wn) H ∧ va_D F (CXk Y A B σ hn h r0 r1 r2 r3 r4 wt wn)
theorem c_X5_undoT (l : Launch) (D : va_G) (Y : Nat → ClassId) (A : Nat → Nat) (B : Nat → Nat) (σ : Nat → Nat) (hn : Nat) (h : Nat → Nat → Nat) (r0 : Nat → Nat) (r1 : Nat → Nat) (r2 : Nat → Nat) (r3 : Nat → Nat) (r4 : Nat → Nat) (wt : Nat → Nat) (wn : Nat)  (τ : Nat → Nat) (kσ : zWF σ) (kr : zCon σ r0 r1 r2 r3 r4) (khn : hn ≤ 6) (hn0 : 0 < hn) (hτ : h (hn - 1) = τ) (kτ : zWF τ) : Met l yX5_undo wsX5_undo ({ frames := 6, cells := 0, slots := 0, locals := 132 } : Room) (va_Pc [.ref (A 0)] (zBw D Y (CX Y A B σ hn h (wdS σ) (ddS σ) r0 r1 r2 r3 r4 (σ 0) (pak (itC (wdS σ) σ) (σ 0)) (mkP (fun k9 => decide (k9 < σ 0))) wt wn))) (zW (some (.int (nI (hn - 1)))) D (CX Y A B τ (hn - 1) h (wdS τ) (ddS τ) (ag0 τ r0) (ag1 τ r1) (ag2 τ r2) (ag3 τ r2 r3) (ag4 τ r2 r4) (τ 0) (pak (itC (wdS τ) τ) (τ 0)) (mkP (fun k9 => decide (k9 < τ 0))) wt wn) (zA (CX Y A B σ hn h (wdS σ) (ddS σ) r0 r1 r2 r3 r4 (σ 0) (pak (itC (wdS σ) σ) (σ 0)) (mkP (fun k9 => decide (k9 < σ 0))) wt wn))) 0 0 (zA (CX Y A B σ hn h (wdS σ) (ddS σ) r0 r1 r2 r3 r4 (σ 0) (pak (itC (wdS σ) σ) (σ 0)) (mkP (fun k9 => decide (k9 < σ 0))) wt wn)) := by
  subst hτ
  exact c_X5_undo l D Y A B σ hn h r0 r1 r2 r3 r4 wt wn  kσ kr khn hn0 kτ
theorem c_X5_burstT (l : Launch) (D : va_G) (Y : Nat → ClassId) (A : Nat → Nat) (B : Nat → Nat) (σ : Nat → Nat) (hn : Nat) (h : Nat → Nat → Nat) (r0 : Nat → Nat) (r1 : Nat → Nat) (r2 : Nat → Nat) (r3 : Nat → Nat) (r4 : Nat → Nat) (wt : Nat → Nat) (wn : Nat) (st : Nat) (le : Nat) (τ : Nat → Nat) (kσ : zWF σ) (kr : zCon σ r0 r1 r2 r3 r4) (khn : hn ≤ 6) (hst : st < σ 2 * σ 0) (hl1 : 1 ≤ le) (hl2 : le ≤ σ 2 * σ 0 - st) (hτ : burI σ st (st + le) (σ 0) = τ) : Met l yX5_burst wsX5_burst ({ frames := 6, cells := 0, slots := 0, locals := 132 } : Room) (va_Pc [.ref (A 0), .int (nI st), .int (nI le)] (zBw D Y (CX Y A B σ hn h (wdS σ) (ddS σ) r0 r1 r2 r3 r4 (σ 0) (pak (itC (wdS σ) σ) (σ 0)) (mkP (fun k9 => decide (k9 < σ 0))) wt wn))) (zW (some (.int (nI (cnt (fun j => !(bmask (σ 2) j st (st + le) == 0)) (σ 0))))) D (CX Y A (recB B hn) τ (recN hn) (recH h hn σ) (wdS τ) (ddS τ) (ag0 τ r0) (ag1 τ r1) (ag2 τ r2) (ag3 τ r2 r3) (ag4 τ r2 r4) (τ 0) (pak (itC (wdS τ) τ) (τ 0)) (mkP (fun k9 => decide (k9 < τ 0))) wt wn) (zA (CX Y A B σ hn h (wdS σ) (ddS σ) r0 r1 r2 r3 r4 (σ 0) (pak (itC (wdS σ) σ) (σ 0)) (mkP (fun k9 => decide (k9 < σ 0))) wt wn))) 0 0 (zA (CX Y A B σ hn h (wdS σ) (ddS σ) r0 r1 r2 r3 r4 (σ 0) (pak (itC (wdS σ) σ) (σ 0)) (mkP (fun k9 => decide (k9 < σ 0))) wt wn)) := by
  subst hτ
  exact c_X5_burst l D Y A B σ hn h r0 r1 r2 r3 r4 wt wn st le kσ kr khn hst hl1 hl2
