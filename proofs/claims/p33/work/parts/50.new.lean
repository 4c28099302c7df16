/-! constructors: cells that a method makes -/
/-- addresses of new cells, by their numbers -/
def zad (l : List Nat) (k : Nat) : Nat := l.getD k 0
def zBn (D : va_G) (Y : Nat → ClassId) (ws : va_W) (sz : Nat) (U : State) : Prop := zBw D Y ws U ∧ U.heap.size = sz ∧ va_AO "NestedCodes$State" U
/-- a constructor's world behind it, by the addresses of what it made -/
abbrev zBq (D : va_G) (w1 : (Nat → Nat) → va_W) (A : Nat → Prop) : (Nat → Nat) → State → Prop := fun u t => va_P D vwCl (w1 u) t.heap ∧ va_D A (w1 u)
abbrev zV (D : va_G) (w1 : (Nat → Nat) → va_W) (A : Nat → Prop) : Array Value → State → Outcome → State → Prop := va_Qv (fun _ : Nat → Nat => True) (zBq D w1 A) A
theorem zBn_blind {D : va_G} {Y : Nat → ClassId} {av : List Value} {ws : va_W} {sz : Nat} : FrameBlind (va_Pc av (zBn D Y ws sz)) := fun a U g mk q => by
  obtain ⟨q0, ⟨⟨q1, q2, q3⟩, q4⟩, q5, q6⟩ := q
  exact ⟨q0, ⟨⟨q1, va_K.moved (u := U) (U := U.calling g mk a) (Vm.Alike.refl U.vm) q2, zNw.same (u := U) (U := U.calling g mk a) rfl q3⟩, q4⟩, q5, va_AO.moved (u := U) (U := U.calling g mk a) (Vm.Alike.refl U.vm) q6⟩
theorem zn_of {l : Launch} {y : MethodName} {ws ws' : List Cond} {rm : Room} {D : va_G} {Y : Nat → ClassId} {av : List Value} {wc : va_W} {w1 : (Nat → Nat) → va_W} {sz mc ms : Nat} {cc : ByteArray} {maxL : Nat} (hy : plainName y.cls = true) (hw : ws = Cond.code y cc maxL none :: ws') (hL : (lg_sl av).length ≤ maxL)
    (body : ∀ (p : Program) (e : Env) (s : State) (m : MethodId) (below : List Frame) (meth : Method) (c : Code) (R : Room) (args : Array Value) (Q : State → Prop) (A : Nat → Prop), R = rm → p.tables.exec = Jvm.exec → c.code = cc → c.maxLocals = maxL → meth.sig.returnType = none → meth.locks = false → s.vm.findClass y.cls = some m.cls → (∀ w ∈ ws, w.before args s = true) → va_K D vwCl (zT Y) s → zNw s → va_AO "NestedCodes$State" s → meth.name = y.name → Q = MQ below (zV D w1 A) args s mc ms A → (∀ q : Nat, s.heap.size ≤ q → A q) → va_P D vwCl wc s.heap → va_D A wc → va_S A s.heap s.heap [] → ∀ ls : Array Slot, lv_has ls maxL (lv_args 0 av) → W p l e R s m args below meth c s.heap [] 0 0 Q (F0 m 0 ls [])) :
    Met l y ws rm (va_Pc av (zBn D Y wc sz)) (zV D w1 (va_A wc sz)) mc ms (va_A wc sz) := by
  refine Met.ofW (cc := cc) (maxL := maxL) (ret := none) hy hw ?_
  intro p e s m args below meth c s₁ B hml hv
  obtain ⟨rfl, ⟨⟨hP, hK, hN⟩, hD⟩, hsz, hAO⟩ := hv
  subst hsz
  have hl := lv_entry av (n := maxL) hL
  rw [lg_entry_eq]
  generalize (lg_sl av ++ List.replicate (maxL - (lg_sl av).length) Slot.unset).toArray = ls at hl ⊢
  exact body p e s m below meth c _ _ _ (va_A wc s.heap.size) rfl B.exec B.bytes hml B.returns B.notSynchronized (findClass_of_methodNamed B.named) (atoms_spec (ws := ws) B.pre) hK hN hAO (name_of_methodNamed B.named B.method).1 rfl (fun q h => Or.inr h) hP hD.self va_S.rf ls hl
section NROWS
variable {p : Program} {l : Launch} {e : Env} {R : Room} {s : State} {m : MethodId} {args : Array Value} {below : List Frame} {meth : Method} {c : Code} {H : Heap} {locs : List Loc} {cells slots : Nat} {Q : State → Prop} {cc : ByteArray} {pc : Nat} {ls : Array Slot} {rest : List Value} {A : Nat → Prop} {H0 : Heap} {D : va_G} {Y : Nat → ClassId} {ws : va_W} {a : Nat}
theorem zp_n {v : List Value} {wc : va_W} (hP : va_P D vwCl wc H) (hD : va_D A wc) (hK : va_K D vwCl (zT Y) s) (hN : zNw s) (hAO : va_AO "NestedCodes$State" s) : ∀ U : State, U.heap = H → s.WarmedH U.vm → va_Pc v (zBn D Y wc H.size) v.toArray U := fun U hU hW => ⟨rfl, ⟨⟨by rw [hU]; exact hP, va_K.moved hW.alike hK, zNw.warm hW hN⟩, hD.weaken (fun _ _ _ _ => trivial)⟩, by rw [hU], va_AO.moved hW.alike hAO⟩
theorem zn_v {w1 : (Nat → Nat) → va_W} (hx : p.tables.exec = Jvm.exec) (hb : c.code = cc) (hr : meth.sig.returnType = none) (hlk : meth.locks = false) (hQ : Q = MQ below (zV D w1 A) args s cells slots A) (hS : va_S A s.heap H locs) (hdg : decode cc pc = .ok (.return_, 1)) (u : Nat → Nat) (hP : va_P D vwCl (w1 u) H) (hD : va_D A (w1 u)) : W p l e R s m args below meth c H locs cells slots Q (F0 m pc ls []) := by
  subst hQ
  exact W.vret hx hb hr (fun t ht hW => ⟨⟨u, rfl, trivial, by rw [ht]; exact hP, hD⟩, hS.F ht⟩) hS.2.2 hdg hlk
theorem zc_n {w1 : (Nat → Nat) → va_W} {mc ms : Nat} {st : List Value} {aa : Array Value} {wc wr : va_W} (hr : va_Run p l e R s m args below meth c H locs cells slots mc ms (F0 m pc ls st) rest (zV D w1 (va_A wc H.size) aa) (va_A wc H.size)) (hP : va_P D vwCl ws H) (hD : va_D A ws) (hS : va_S A H0 H locs) (hA : ∀ q : Nat, H0.size ≤ q → A q) (isC isR : List Nat) (hC : isC.map (fun i => ws[i]?) = wc.map some) (hR : isR.map (fun i => ws[i]?) = wr.map some) (hn : va_nd isR = true) (hdis : ∀ i ∈ isR, i ∉ isC)
    (kk : ∀ (u : Nat → Nat) (H1 : Heap) (locs1 : List Loc), va_P D vwCl (wr ++ w1 u) H1 → va_D A (wr ++ w1 u) → va_S A H0 H1 locs1 → W p l e R s m args below meth c H1 locs1 (cells + mc) (slots + ms) Q (F0 m (pc + 3) ls rest)) : W p l e R s m args below meth c H locs cells slots Q (F0 m pc ls st) := by
  have hF := va_free hD hS hA isC hC
  refine va_callv hr hS (fun q _ h => hF q h) hF (fun u t H1 locs1 ht hvm hw hB hz hk hS => ?_)
  obtain ⟨hP1, hD1⟩ := hB
  rw [ht] at hP1
  obtain ⟨hP', hD'⟩ := va_join hP hD isC isR hC hR hn hdis hk hF hP1 hD1
  exact kk u H1 locs1 hP' hD' hS
theorem zY_same {cA cB : ClassId} {x : Option ClassId} (h1 : x = some cA) (h2 : x = some cB) : cA = cB := Option.some.inj (h1.symm.trans h2)
theorem n_neg {N : Nat} (h : N < 2147483648) : ¬ nI N < 0 := fun z => by
  have h1 := (fa_lt _ _).mp z
  rw [zt_n h, show (0 : Int32).toInt = 0 from by decide] at h1
  omega
theorem zl_newI (hx : p.tables.exec = Jvm.exec) (hb : c.code = cc) (hK : va_K D vwCl (zT Y) s) (hP : va_P D vwCl ws H) (hD : va_D A ws) (hS : va_S A H0 H locs) (hA : ∀ q : Nat, H0.size ≤ q → A q) (harr : (Cond.arrayClass .int).before args s = true) {N : Nat} (hN : N < 100000) (hc : cells + 1 ≤ R.cells) (hs : slots + N ≤ R.slots) (hdg : decode cc pc = .ok (.newarray .int, 2))
    (kk : ∀ (q : Nat) (H1 : Heap), va_P D vwCl (ws ++ [(q, .inl (Y 0, N, .inl (fun _ => 0)))]) H1 → va_D A (ws ++ [(q, .inl (Y 0, N, .inl (fun _ => 0)))]) → va_S A H0 H1 locs → W p l e R s m args below meth c H1 locs (cells + 1) (slots + N) Q (F0 m (pc + 2) ls (.ref q :: rest))) : W p l e R s m args below meth c H locs cells slots Q (F0 m pc ls (.int (nI N) :: rest)) := by
  refine va_newa (atype := .int) (ty := .int) (a0 := (N, .inl (fun _ => 0))) (N' := N) hx hb harr rfl hK hP hD hS hA (fun cA => vp_cell_i cA N _) (n_neg (by omega)) (nI_clamp (by omega)) (by show N * 4 ≤ _; omega) hc hs hdg (fun q cA H1 hK' hP' hD' hS' => ?_)
  have e : cA = Y 0 := zY_same (hK'.2 5 (cA, .int) rfl).2 (hK.2 0 (Y 0, .int) rfl).2
  subst e
  exact kk q H1 hP' hD' hS'
theorem zl_newZ (hx : p.tables.exec = Jvm.exec) (hb : c.code = cc) (hK : va_K D vwCl (zT Y) s) (hP : va_P D vwCl ws H) (hD : va_D A ws) (hS : va_S A H0 H locs) (hA : ∀ q : Nat, H0.size ≤ q → A q) (harr : (Cond.arrayClass .boolean).before args s = true) {N : Nat} (hN : N < 100000) (hc : cells + 1 ≤ R.cells) (hs : slots + N ≤ R.slots) (hdg : decode cc pc = .ok (.newarray .boolean, 2))
    (kk : ∀ (q : Nat) (H1 : Heap), va_P D vwCl (ws ++ [(q, .inl (Y 1, N, .inl (fun _ => 0)))]) H1 → va_D A (ws ++ [(q, .inl (Y 1, N, .inl (fun _ => 0)))]) → va_S A H0 H1 locs → W p l e R s m args below meth c H1 locs (cells + 1) (slots + N) Q (F0 m (pc + 2) ls (.ref q :: rest))) : W p l e R s m args below meth c H locs cells slots Q (F0 m pc ls (.int (nI N) :: rest)) := by
  refine va_newa (atype := .boolean) (ty := .boolean) (a0 := (N, .inl (fun _ => 0))) (N' := N) hx hb harr rfl hK hP hD hS hA (fun cA => vp_cell_i cA N _) (n_neg (by omega)) (nI_clamp (by omega)) (by show N * 1 ≤ _; omega) hc hs hdg (fun q cA H1 hK' hP' hD' hS' => ?_)
  have e : cA = Y 1 := zY_same (hK'.2 5 (cA, .boolean) rfl).2 (hK.2 1 (Y 1, .boolean) rfl).2
  subst e
  exact kk q H1 hP' hD' hS'
theorem zl_newL (hx : p.tables.exec = Jvm.exec) (hb : c.code = cc) (hK : va_K D vwCl (zT Y) s) (hP : va_P D vwCl ws H) (hD : va_D A ws) (hS : va_S A H0 H locs) (hA : ∀ q : Nat, H0.size ≤ q → A q) (harr : (Cond.arrayClass .long).before args s = true) {N : Nat} (hN : N < 100000) (hc : cells + 1 ≤ R.cells) (hs : slots + N ≤ R.slots) (hdg : decode cc pc = .ok (.newarray .long, 2))
    (kk : ∀ (q : Nat) (H1 : Heap), va_P D vwCl (ws ++ [(q, .inl (Y 2, N, .inr (.inl (fun _ => 0))))]) H1 → va_D A (ws ++ [(q, .inl (Y 2, N, .inr (.inl (fun _ => 0))))]) → va_S A H0 H1 locs → W p l e R s m args below meth c H1 locs (cells + 1) (slots + N) Q (F0 m (pc + 2) ls (.ref q :: rest))) : W p l e R s m args below meth c H locs cells slots Q (F0 m pc ls (.int (nI N) :: rest)) := by
  refine va_newa (atype := .long) (ty := .long) (a0 := (N, .inr (.inl (fun _ => 0)))) (N' := N) hx hb harr rfl hK hP hD hS hA (fun cA => vp_cell_l cA N _) (n_neg (by omega)) (nI_clamp (by omega)) (by show N * 8 ≤ _; omega) hc hs hdg (fun q cA H1 hK' hP' hD' hS' => ?_)
  have e : cA = Y 2 := zY_same (hK'.2 5 (cA, .long) rfl).2 (hK.2 2 (Y 2, .long) rfl).2
  subst e
  exact kk q H1 hP' hD' hS'
theorem zl_newQ (hx : p.tables.exec = Jvm.exec) (hb : c.code = cc) {own : String} {index : Nat} (hown : s.vm.findClass own = some m.cls) (hclink : (Cond.classLink own index "NestedCodes$State").before args s = true) (hover : va_AO "NestedCodes$State" s) (hK : va_K D vwCl (zT Y) s) (hP : va_P D vwCl ws H) (hD : va_D A ws) (hS : va_S A H0 H locs) (hA : ∀ q : Nat, H0.size ≤ q → A q) {N : Nat} (hN : N < 100000) (hc : cells + 1 ≤ R.cells) (hs : slots + N ≤ R.slots) (hdg : decode cc pc = .ok (.anewarray index, 3))
    (kk : ∀ (q : Nat) (H1 : Heap), va_P D vwCl (ws ++ [(q, .inl (Y 4, N, .inr (.inr (.inr (.inr (fun _ => none))))))]) H1 → va_D A (ws ++ [(q, .inl (Y 4, N, .inr (.inr (.inr (.inr (fun _ => none))))))]) → va_S A H0 H1 locs → W p l e R s m args below meth c H1 locs (cells + 1) (slots + N) Q (F0 m (pc + 3) ls (.ref q :: rest))) : W p l e R s m args below meth c H locs cells slots Q (F0 m pc ls (.int (nI N) :: rest)) := by
  refine va_newq (C := "NestedCodes$State") (N' := N) hx hb hown hclink hover hK hP hD hS hA (n_neg (by omega)) (nI_clamp (by omega)) (by omega) hc hs hdg (fun q cA H1 hK' hP' hD' hS' => ?_)
  obtain ⟨k1, c1, a1, a2, a3, a4⟩ := (hK'.2 5 (cA, .object "NestedCodes$State") rfl).2
  obtain ⟨k2, c2, b1, b2, b3, b4⟩ := (hK.2 4 (Y 4, .object "NestedCodes$State") rfl).2
  have e : cA = Y 4 := zY_same a4 b4
  subst e
  exact kk q H1 hP' hD' hS'
end NROWS
/-- the state at the start -/
def st0 (q : Nat) : Nat := [8, 3, 7, 49, 82, 100, 120].getD q 0
theorem st0_hi {q : Nat} (h : 7 ≤ q) : st0 q = 0 := by
  unfold st0
  rw [List.getD_eq_getElem?_getD, List.getElem?_eq_none (by show 7 ≤ q; exact h)]; rfl
theorem zWF_st0 : zWF st0 := by
  refine ⟨by decide, by decide, by decide, by decide, by decide, by decide, by decide, fun j hj => ?_, by decide, by decide, fun j _ => ?_, fun s h0 hs => ?_⟩
  · rcases (show j = 0 ∨ j = 1 ∨ j = 2 ∨ j = 3 by omega) with rfl | rfl | rfl | rfl <;> decide
  · rw [st0_hi (by omega)]; decide
  · have h : (List.range 16).all (fun s => s == 0 || !(wdS st0 s == 0)) = true := by decide +kernel
    have h1 := List.all_eq_true.mp h s (List.mem_range.mpr hs)
    intro z
    rw [z] at h1
    rw [show (s == 0) = false from beq_false_of_ne (by omega)] at h1
    exact absurd h1 (by decide)
