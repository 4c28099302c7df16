def zFw (q : String × Nat × String × String × String × String) : Cond := .fieldLinkNest q.1 q.2.1 q.2.2.1 q.2.2.2.1 q.2.2.2.2.1 q.2.2.2.2.2
def zMw (q : String × Nat × MethodName × String) : Cond := .methodLinkNest q.1 q.2.1 q.2.2.1 q.2.2.2
def zNF : List (String × Nat × String × String × String × String) := [("NestedCodes$Reading", 38, "NestedCodes$State", "length", "I", "NestedCodes"), ("NestedCodes", 55, "NestedCodes$State", "length", "I", "NestedCodes"), ("NestedCodes", 58, "NestedCodes$State", "dimension", "I", "NestedCodes"), ("NestedCodes", 72, "NestedCodes$State", "bits", "I", "NestedCodes"), ("NestedCodes", 75, "NestedCodes$State", "generators", "[I", "NestedCodes"), ("NestedCodes$Reading", 59, "NestedCodes$State", "words", "[I", "NestedCodes"), ("NestedCodes", 128, "NestedCodes$State", "words", "[I", "NestedCodes"), ("NestedCodes$Reading", 55, "NestedCodes$State", "lost", "[Z", "NestedCodes"), ("NestedCodes", 138, "NestedCodes$State", "lost", "[Z", "NestedCodes"), ("NestedCodes", 122, "NestedCodes$State", "sentMessage", "I", "NestedCodes"), ("NestedCodes", 81, "NestedCodes$History", "size", "I", "NestedCodes"), ("NestedCodes", 101, "NestedCodes$InnerCode", "words", "[I", "NestedCodes"), ("NestedCodes", 78, "NestedCodes$InnerCode", "distance", "I", "NestedCodes"), ("NestedCodes", 155, "NestedCodes$Reading", "symbols", "[I", "NestedCodes"), ("NestedCodes", 142, "NestedCodes$Reading", "gaps", "[I", "NestedCodes"), ("NestedCodes", 158, "NestedCodes$Reading", "reliabilities", "[I", "NestedCodes")]
def zNM : List (String × Nat × MethodName × String) := [("NestedCodes", 9, ⟨"NestedCodes$State", "<init>", "()V"⟩, "NestedCodes"), ("NestedCodes", 18, ⟨"NestedCodes$History", "<init>", "()V"⟩, "NestedCodes"), ("NestedCodes$History", 17, ⟨"NestedCodes$State", "<init>", "()V"⟩, "NestedCodes"), ("NestedCodes", 25, ⟨"NestedCodes$InnerCode", "<init>", "()V"⟩, "NestedCodes"), ("NestedCodes", 32, ⟨"NestedCodes$OuterCode", "<init>", "()V"⟩, "NestedCodes"), ("NestedCodes$OuterCode", 15, ⟨"NestedCodes", "fieldProduct", "(II)I"⟩, "NestedCodes"), ("NestedCodes", 39, ⟨"NestedCodes$Reading", "<init>", "()V"⟩, "NestedCodes"), ("NestedCodes", 203, ⟨"NestedCodes$InnerCode", "setGenerators", "([I)V"⟩, "NestedCodes"), ("NestedCodes$InnerCode", 19, ⟨"NestedCodes", "generatedWord", "([II)I"⟩, "NestedCodes"), ("NestedCodes", 207, ⟨"NestedCodes$Reading", "read", "(LNestedCodes$State;LNestedCodes$InnerCode;)V"⟩, "NestedCodes"), ("NestedCodes$Reading", 41, ⟨"NestedCodes$OuterCode", "marks", "(I)J"⟩, "NestedCodes"), ("NestedCodes$Reading", 62, ⟨"NestedCodes$InnerCode", "symbolOf", "(I)I"⟩, "NestedCodes"), ("NestedCodes$Reading", 67, ⟨"NestedCodes$InnerCode", "bitsBetween", "(II)I"⟩, "NestedCodes"), ("NestedCodes$Reading", 71, ⟨"NestedCodes$InnerCode", "reliability", "(I)I"⟩, "NestedCodes"), ("NestedCodes", 61, ⟨"NestedCodes$History", "record", "(LNestedCodes$State;)V"⟩, "NestedCodes"), ("NestedCodes$History", 25, ⟨"NestedCodes$State", "copyFrom", "(LNestedCodes$State;)V"⟩, "NestedCodes"), ("NestedCodes", 65, ⟨"NestedCodes$State", "clearBlocks", "()V"⟩, "NestedCodes"), ("NestedCodes", 84, ⟨"NestedCodes$History", "restoreLatest", "(LNestedCodes$State;)V"⟩, "NestedCodes"), ("NestedCodes", 87, ⟨"NestedCodes$State", "outerDistance", "()I"⟩, "NestedCodes"), ("NestedCodes", 114, ⟨"NestedCodes$OuterCode", "codeword", "(I)J"⟩, "NestedCodes"), ("NestedCodes", 176, ⟨"NestedCodes$State", "messages", "()I"⟩, "NestedCodes"), ("NestedCodes", 219, ⟨"NestedCodes$Reading", "differingBlocks", "(J)J"⟩, "NestedCodes"), ("NestedCodes$Reading", 76, ⟨"NestedCodes$OuterCode", "markSymbols", "(J)J"⟩, "NestedCodes"), ("NestedCodes", 183, ⟨"NestedCodes$Reading", "scoreOf", "(J)I"⟩, "NestedCodes"), ("NestedCodes", 173, ⟨"NestedCodes$Reading", "keptBlocks", "(I)J"⟩, "NestedCodes"), ("NestedCodes", 236, ⟨"NestedCodes$OuterCode", "markSymbols", "(J)J"⟩, "NestedCodes"), ("NestedCodes", 239, ⟨"NestedCodes$OuterCode", "marks", "(I)J"⟩, "NestedCodes"), ("NestedCodes", 227, ⟨"NestedCodes$InnerCode", "symbolOf", "(I)I"⟩, "NestedCodes"), ("NestedCodes", 230, ⟨"NestedCodes$InnerCode", "bitsBetween", "(II)I"⟩, "NestedCodes"), ("NestedCodes", 233, ⟨"NestedCodes$InnerCode", "reliability", "(I)I"⟩, "NestedCodes"), ("NestedCodes", 135, ⟨"NestedCodes$State", "allBits", "()I"⟩, "NestedCodes"), ("NestedCodes", 152, ⟨"NestedCodes$State", "shiftedRound", "(I)I"⟩, "NestedCodes")]
abbrev zT (Y : Nat → ClassId) : List (ClassId × FieldType) := [(Y 0, .int), (Y 1, .boolean), (Y 2, .long), (Y 3, .int), (Y 4, .object "NestedCodes$State")]
/-- the links between nest mates, as the tables have them -/
def zNw (U : State) : Prop := (∀ q ∈ zNF, va_Nw (zFw q) U) ∧ ∀ q ∈ zNM, va_Nw (zMw q) U
theorem zNw.same {u U : State} (h : u.vm = U.vm) (hN : zNw u) : zNw U := ⟨fun q hq => va_Nw.same rfl h (hN.1 q hq), fun q hq => va_Nw.same rfl h (hN.2 q hq)⟩
theorem zNw.warm {s U : State} (hW : s.WarmedH U.vm) (hN : zNw s) : zNw U := ⟨fun q hq => va_Nw.warmF hW (hN.1 q hq), fun q hq => va_Nw.warmM hW (hN.2 q hq)⟩
def zB (D : va_G) (Y : Nat → ClassId) (ws : va_W) (U : State) : Prop := va_P D vwCl ws U.heap ∧ va_K D vwCl (zT Y) U ∧ zNw U
def zBw (D : va_G) (Y : Nat → ClassId) (ws : va_W) (U : State) : Prop := zB D Y ws U ∧ va_D (fun _ => True) ws
theorem zB_blind {D : va_G} {Y : Nat → ClassId} {av : List Value} {ws : va_W} : FrameBlind (va_Pc av (zB D Y ws)) := fun a U g mk q => by
  obtain ⟨q0, q1, q2, q3⟩ := q
  exact ⟨q0, q1, va_K.moved (u := U) (U := U.calling g mk a) (Vm.Alike.refl U.vm) q2, zNw.same (u := U) (U := U.calling g mk a) rfl q3⟩
theorem zBw_blind {D : va_G} {Y : Nat → ClassId} {av : List Value} {ws : va_W} : FrameBlind (va_Pc av (zBw D Y ws)) := fun a U g mk q => by
  obtain ⟨q0, ⟨q1, q2, q3⟩, q4⟩ := q
  exact ⟨q0, ⟨q1, va_K.moved (u := U) (U := U.calling g mk a) (Vm.Alike.refl U.vm) q2, zNw.same (u := U) (U := U.calling g mk a) rfl q3⟩, q4⟩
/-- a method that reads: its answer, and nothing is written -/
abbrev zR (v : Value) : Array Value → State → Outcome → State → Prop := va_Sr (fun _ => True) (fun _ => v)
/-- the addresses of a world -/
def zA (ws : va_W) : Nat → Prop := fun q => ∃ (k : Nat) (e : va_E), ws[k]? = some (q, e)
/-- a method that writes: its answer, its world behind it, nothing else changed -/
def zW (v : Option Value) (D : va_G) (w1 : va_W) (A : Nat → Prop) : Array Value → State → Outcome → State → Prop := fun _ st oc t => oc = .returned v ∧ va_P D vwCl w1 t.heap ∧ va_F A st t
theorem zA_of {A : Nat → Prop} {ws : va_W} (hD : va_D A ws) : ∀ q, zA ws q → A q := fun q h => by
  obtain ⟨k, e, hk⟩ := h
  exact hD.2 k _ hk
theorem zD_self {A : Nat → Prop} {ws : va_W} (hD : va_D A ws) : va_D (zA ws) ws := ⟨hD.1, fun k q h => ⟨k, q.2, h⟩⟩
theorem zD_same {A : Nat → Prop} {ws w1 : va_W} (hD : va_D A ws) (h : w1.map Prod.fst = ws.map Prod.fst) : va_D A w1 := by
  have hk : ∀ (k : Nat) (q : Nat × va_E), w1[k]? = some q → ∃ q' : Nat × va_E, ws[k]? = some q' ∧ q'.1 = q.1 := fun k q hq => by
    have h1 : (w1.map Prod.fst)[k]? = some q.1 := by rw [List.getElem?_map, hq]; rfl
    rw [h, List.getElem?_map] at h1
    cases h2 : ws[k]? with
    | none => rw [h2] at h1; cases h1
    | some q' => rw [h2] at h1; exact ⟨q', rfl, Option.some.inj h1⟩
  refine ⟨fun i j p q hi hj e => ?_, fun k q hq => ?_⟩
  · obtain ⟨p', hp', e1⟩ := hk i p hi
    obtain ⟨q', hq', e2⟩ := hk j q hj
    exact hD.1 i j p' q' hp' hq' (by rw [e1, e2, e])
  · obtain ⟨q', hq', e1⟩ := hk k q hq
    rw [← e1]; exact hD.2 k q' hq'
theorem zP_app {D : va_G} {cl : List vw_C} {a b : va_W} {H : Heap} (h1 : va_P D cl a H) (h2 : va_P D cl b H) : va_P D cl (a ++ b) H := h1.app h2
theorem zP_left {D : va_G} {cl : List vw_C} {a b : va_W} {H : Heap} (h : va_P D cl (a ++ b) H) : va_P D cl a H := fun k q hk => h k q (by
  rw [List.getElem?_append_left (List.getElem?_eq_some_iff.mp hk).1]; exact hk)
theorem zP_right {D : va_G} {cl : List vw_C} {a b : va_W} {H : Heap} (h : va_P D cl (a ++ b) H) : va_P D cl b H := fun k q hk => h (a.length + k) q (by
  rw [List.getElem?_append_right (Nat.le_add_right _ _), Nat.add_sub_cancel_left]; exact hk)
theorem zD_left {A : Nat → Prop} {a b : va_W} (h : va_D A (a ++ b)) : va_D A a := ⟨fun i j p q hi hj e => h.1 i j p q (by rw [List.getElem?_append_left (List.getElem?_eq_some_iff.mp hi).1]; exact hi) (by rw [List.getElem?_append_left (List.getElem?_eq_some_iff.mp hj).1]; exact hj) e, fun k q hk => h.2 k q (by rw [List.getElem?_append_left (List.getElem?_eq_some_iff.mp hk).1]; exact hk)⟩
theorem zD_right {A : Nat → Prop} {a b : va_W} (h : va_D A (a ++ b)) : va_D A b := ⟨fun i j p q hi hj e => by
    have h1 := h.1 (a.length + i) (a.length + j) p q (by rw [List.getElem?_append_right (Nat.le_add_right _ _), Nat.add_sub_cancel_left]; exact hi) (by rw [List.getElem?_append_right (Nat.le_add_right _ _), Nat.add_sub_cancel_left]; exact hj) e
    omega, fun k q hk => h.2 (a.length + k) q (by rw [List.getElem?_append_right (Nat.le_add_right _ _), Nat.add_sub_cancel_left]; exact hk)⟩
theorem zD_off {A : Nat → Prop} {a b : va_W} (h : va_D A (a ++ b)) {q : Nat} (ha : zA a q) : ¬ zA b q := fun hb => by
  obtain ⟨i, e, hi⟩ := ha
  obtain ⟨j, f, hj⟩ := hb
  have h1 := h.1 i (a.length + j) (q, e) (q, f) (by rw [List.getElem?_append_left (List.getElem?_eq_some_iff.mp hi).1]; exact hi) (by rw [List.getElem?_append_right (Nat.le_add_right _ _), Nat.add_sub_cancel_left]; exact hj) rfl
  have h2 := (List.getElem?_eq_some_iff.mp hi).1
  omega
/-- a world stays where its addresses were not written -/
theorem zP_kept {D : va_G} {cl : List vw_C} {ws : va_W} {H H1 : Heap} {B : Nat → Prop} (h : va_P D cl ws H) (hlt : ∀ q, zA ws q → q < H.size) (hk : ∀ q : Nat, q < H.size → ¬ B q → H1[q]? = H[q]?) (hB : ∀ q, zA ws q → ¬ B q) : va_P D cl ws H1 :=
  h.kept (fun k q hq => hk q.1 (hlt q.1 ⟨k, q.2, hq⟩) (hB q.1 ⟨k, q.2, hq⟩))
theorem zP_lt {D : va_G} {cl : List vw_C} {ws : va_W} {H : Heap} (h : va_P D cl ws H) : ∀ q, zA ws q → q < H.size := fun q hq => by
  obtain ⟨k, e, hk⟩ := hq
  have h1 := h k _ hk
  have h2 : ∃ cell : Cell, H[q]? = some cell := by
    rcases e with a | o
    · exact ⟨_, h1⟩
    · obtain ⟨r, -, cell, hc, -⟩ := h1
      exact ⟨cell, hc⟩
  obtain ⟨cell, hc⟩ := h2
  exact (Array.getElem?_eq_some_iff.mp hc).1
/-- an int array says nothing beyond its length -/
theorem z_cellI {cA : ClassId} {n : Nat} {f g : Nat → Int32} (h : ∀ j, j < n → f j = g j) : vp_cell cA (n, .inl f) = vp_cell cA (n, .inl g) := by
  rw [vp_cell_i, vp_cell_i]
  have e : (fun j : Fin n => Value.int (f j.val)) = (fun j : Fin n => Value.int (g j.val)) := funext fun j => by rw [h j.val j.isLt]
  unfold arrV
  rw [e]
theorem z_cellL {cA : ClassId} {n : Nat} {f g : Nat → Int64} (h : ∀ j, j < n → f j = g j) : vp_cell cA (n, .inr (.inl f)) = vp_cell cA (n, .inr (.inl g)) := by
  rw [vp_cell_l, vp_cell_l]
  have e : (fun j : Fin n => Value.long (f j.val)) = (fun j : Fin n => Value.long (g j.val)) := funext fun j => by rw [h j.val j.isLt]
  unfold arrV
  rw [e]
theorem zP_cell {D : va_G} {cl : List vw_C} {ws : va_W} {H : Heap} {k a : Nat} {cA : ClassId} {x y : vp_A} (h : va_P D cl ws H) (hk : ws[k]? = some (a, .inl (cA, x))) (e : vp_cell cA x = vp_cell cA y) : va_P D cl (ws.set k (a, .inl (cA, y))) H := fun j q hj => by
  have hkl := (List.getElem?_eq_some_iff.mp hk).1
  rw [List.getElem?_set] at hj
  by_cases hjk : k = j
  · subst hjk
    rw [if_pos rfl, if_pos hkl] at hj
    cases hj
    have h1 : H[a]? = some (vp_cell cA x) := h k _ hk
    show H[a]? = some (vp_cell cA y)
    rw [h1, e]
  · rw [if_neg hjk] at hj
    exact h j q hj
theorem zP_arrI {D : va_G} {cl : List vw_C} {ws : va_W} {H : Heap} (k : Nat) {a n : Nat} {cA : ClassId} {f : Nat → Int32} (g : Nat → Int32) (h : va_P D cl ws H) (hk : ws[k]? = some (a, .inl (cA, n, .inl f))) (e : ∀ j, j < n → f j = g j) : va_P D cl (ws.set k (a, .inl (cA, n, .inl g))) H := zP_cell h hk (z_cellI e)
theorem zP_arrL {D : va_G} {cl : List vw_C} {ws : va_W} {H : Heap} (k : Nat) {a n : Nat} {cA : ClassId} {f : Nat → Int64} (g : Nat → Int64) (h : va_P D cl ws H) (hk : ws[k]? = some (a, .inl (cA, n, .inr (.inl f)))) (e : ∀ j, j < n → f j = g j) : va_P D cl (ws.set k (a, .inl (cA, n, .inr (.inl g)))) H := zP_cell h hk (z_cellL e)
/-! a method's contract out of its walk -/
theorem zr_of {l : Launch} {y : MethodName} {ws ws' : List Cond} {rm : Room} {D : va_G} {Y : Nat → ClassId} {av : List Value} {wc : va_W} {v : Value} {cc : ByteArray} {maxL : Nat} {ret : Option FieldType} (hy : plainName y.cls = true) (hw : ws = Cond.code y cc maxL ret :: ws') (hL : (lg_sl av).length ≤ maxL)
    (body : ∀ (p : Program) (e : Env) (s : State) (m : MethodId) (below : List Frame) (meth : Method) (c : Code) (R : Room) (args : Array Value) (Q : State → Prop), R = rm → p.tables.exec = Jvm.exec → c.code = cc → c.maxLocals = maxL → meth.sig.returnType = ret → meth.locks = false → s.vm.findClass y.cls = some m.cls → (∀ w ∈ ws, w.before args s = true) → va_K D vwCl (zT Y) s → zNw s → va_P D vwCl wc s.heap → Q = MQ below (zR v) args s 0 0 (fun _ => False) → ∀ ls : Array Slot, lv_has ls maxL (lv_args 0 av) → W p l e R s m args below meth c s.heap [] 0 0 Q (F0 m 0 ls [])) :
    Met l y ws rm (va_Pc av (zB D Y wc)) (zR v) 0 0 (fun _ => False) := by
  refine Met.ofW (cc := cc) (maxL := maxL) (ret := ret) hy hw ?_
  intro p e s m args below meth c s₁ B hml hv
  obtain ⟨rfl, hP, hK, hN⟩ := hv
  have hl := lv_entry av (n := maxL) hL
  rw [lg_entry_eq]
  generalize (lg_sl av ++ List.replicate (maxL - (lg_sl av).length) Slot.unset).toArray = ls at hl ⊢
  exact body p e s m below meth c _ _ _ rfl B.exec B.bytes hml B.returns B.notSynchronized (findClass_of_methodNamed B.named) (atoms_spec (ws := ws) B.pre) hK hN hP rfl ls hl
theorem zw_of {l : Launch} {y : MethodName} {ws ws' : List Cond} {rm : Room} {D : va_G} {Y : Nat → ClassId} {av : List Value} {wc w1 : va_W} {v : Option Value} {cc : ByteArray} {maxL : Nat} {ret : Option FieldType} (hy : plainName y.cls = true) (hw : ws = Cond.code y cc maxL ret :: ws') (hL : (lg_sl av).length ≤ maxL)
    (body : ∀ (p : Program) (e : Env) (s : State) (m : MethodId) (below : List Frame) (meth : Method) (c : Code) (R : Room) (args : Array Value) (Q : State → Prop) (A : Nat → Prop), R = rm → p.tables.exec = Jvm.exec → c.code = cc → c.maxLocals = maxL → meth.sig.returnType = ret → meth.locks = false → s.vm.findClass y.cls = some m.cls → (∀ w ∈ ws, w.before args s = true) → va_K D vwCl (zT Y) s → zNw s → Q = MQ below (zW v D w1 A) args s 0 0 A → va_P D vwCl wc s.heap → va_D A wc → va_S A s.heap s.heap [] → ∀ ls : Array Slot, lv_has ls maxL (lv_args 0 av) → W p l e R s m args below meth c s.heap [] 0 0 Q (F0 m 0 ls [])) :
    Met l y ws rm (va_Pc av (zBw D Y wc)) (zW v D w1 (zA wc)) 0 0 (zA wc) := by
  refine Met.ofW (cc := cc) (maxL := maxL) (ret := ret) hy hw ?_
  intro p e s m args below meth c s₁ B hml hv
  obtain ⟨rfl, ⟨hP, hK, hN⟩, hD⟩ := hv
  have hl := lv_entry av (n := maxL) hL
  rw [lg_entry_eq]
  generalize (lg_sl av ++ List.replicate (maxL - (lg_sl av).length) Slot.unset).toArray = ls at hl ⊢
  exact body p e s m below meth c _ _ _ (zA wc) rfl B.exec B.bytes hml B.returns B.notSynchronized (findClass_of_methodNamed B.named) (atoms_spec (ws := ws) B.pre) hK hN rfl hP (zD_self hD) va_S.rf ls hl
section ZROWS
variable {p : Program} {l : Launch} {e : Env} {R : Room} {s : State} {m : MethodId} {args : Array Value} {below : List Frame} {meth : Method} {c : Code} {H : Heap} {locs : List Loc} {cells slots : Nat} {Q : State → Prop} {cc : ByteArray} {pc : Nat} {ls : Array Slot} {rest : List Value} {A : Nat → Prop} {H0 : Heap} {D : va_G} {Y : Nat → ClassId} {ws w1 : va_W} {a : Nat}
/-! ends -/
theorem zr_i {v r : Int32} (hx : p.tables.exec = Jvm.exec) (hb : c.code = cc) (hr : meth.sig.returnType = some .int) (hlk : meth.locks = false) (hQ : Q = MQ below (zR (.int v)) args s 0 0 (fun _ => False)) (hdg : decode cc pc = .ok (.ireturn, 1)) (hv : r = v) : W p l e R s m args below meth c s.heap [] 0 0 Q (F0 m pc ls [.int r]) := by
  subst hQ; subst hv
  exact W.iret hx hb hr (fun t ht hW => ⟨0, rfl, trivial, ht⟩) (fun q hq => absurd hq List.not_mem_nil) hdg hlk
theorem zr_z {v r : Int32} (hx : p.tables.exec = Jvm.exec) (hb : c.code = cc) (hr : meth.sig.returnType = some .boolean) (hlk : meth.locks = false) (hQ : Q = MQ below (zR (.int v)) args s 0 0 (fun _ => False)) (hdg : decode cc pc = .ok (.ireturn, 1)) (hv : r = v) (hn : r = 0 ∨ r = 1) : W p l e R s m args below meth c s.heap [] 0 0 Q (F0 m pc ls [.int r]) := by
  subst hQ; subst hv
  exact W.zret hx hb hr (by rcases hn with rfl | rfl <;> rfl) (fun t ht hW => ⟨0, rfl, trivial, ht⟩) (fun q hq => absurd hq List.not_mem_nil) hdg hlk
theorem zr_l {v r : Int64} (hx : p.tables.exec = Jvm.exec) (hb : c.code = cc) (hr : meth.sig.returnType = some .long) (hlk : meth.locks = false) (hQ : Q = MQ below (zR (.long v)) args s 0 0 (fun _ => False)) (hdg : decode cc pc = .ok (.lreturn, 1)) (hv : r = v) : W p l e R s m args below meth c s.heap [] 0 0 Q (F0 m pc ls [.long r]) := by
  subst hQ; subst hv
  exact W.lret hx hb hr (fun t ht hW => ⟨0, rfl, trivial, ht⟩) (fun q hq => absurd hq List.not_mem_nil) hdg hlk
theorem zw_i {v r : Int32} (hx : p.tables.exec = Jvm.exec) (hb : c.code = cc) (hr : meth.sig.returnType = some .int) (hlk : meth.locks = false) (hQ : Q = MQ below (zW (some (.int v)) D w1 A) args s 0 0 A) (hS : va_S A s.heap H locs) (hdg : decode cc pc = .ok (.ireturn, 1)) (hv : r = v) (hP : va_P D vwCl w1 H) : W p l e R s m args below meth c H locs 0 0 Q (F0 m pc ls [.int r]) := by
  subst hQ; subst hv
  exact W.iret hx hb hr (fun t ht hW => ⟨rfl, by rw [ht]; exact hP, hS.F ht⟩) hS.2.2 hdg hlk
theorem zw_z {v r : Int32} (hx : p.tables.exec = Jvm.exec) (hb : c.code = cc) (hr : meth.sig.returnType = some .boolean) (hlk : meth.locks = false) (hQ : Q = MQ below (zW (some (.int v)) D w1 A) args s 0 0 A) (hS : va_S A s.heap H locs) (hdg : decode cc pc = .ok (.ireturn, 1)) (hv : r = v) (hn : r = 0 ∨ r = 1) (hP : va_P D vwCl w1 H) : W p l e R s m args below meth c H locs 0 0 Q (F0 m pc ls [.int r]) := by
  subst hQ; subst hv
  exact W.zret hx hb hr (by rcases hn with rfl | rfl <;> rfl) (fun t ht hW => ⟨rfl, by rw [ht]; exact hP, hS.F ht⟩) hS.2.2 hdg hlk
theorem zw_v (hx : p.tables.exec = Jvm.exec) (hb : c.code = cc) (hr : meth.sig.returnType = none) (hlk : meth.locks = false) (hQ : Q = MQ below (zW none D w1 A) args s 0 0 A) (hS : va_S A s.heap H locs) (hdg : decode cc pc = .ok (.return_, 1)) (hP : va_P D vwCl w1 H) : W p l e R s m args below meth c H locs 0 0 Q (F0 m pc ls []) := by
  subst hQ
  exact W.vret hx hb hr (fun t ht hW => ⟨rfl, by rw [ht]; exact hP, hS.F ht⟩) hS.2.2 hdg hlk
/-! calls -/
theorem zc_r {v : Value} {st : List Value} {aa : Array Value} (hr : CallRun p l e R s m args below meth c H locs cells slots 0 0 (F0 m pc ls st) rest (zR v aa) (fun _ => False)) (kk : W p l e R s m args below meth c H locs cells slots Q (F0 m (pc + 3) ls (v :: rest))) : W p l e R s m args below meth c H locs cells slots Q (F0 m pc ls st) :=
  va_csr hr (fun _ _ => kk)
theorem zc_w {v : Option Value} {st : List Value} {aa : Array Value} {wc : va_W} (hr : CallRun p l e R s m args below meth c H locs cells slots 0 0 (F0 m pc ls st) rest (zW v D w1 (zA wc) aa) (zA wc)) (hS : va_S A H0 H locs) (hf : ∀ q, zA wc q → A q)
    (kk : ∀ (H1 : Heap) (locs1 : List Loc), va_P D vwCl w1 H1 → H.size ≤ H1.size → (∀ q : Nat, q < H.size → ¬ zA wc q → H1[q]? = H[q]?) → va_S A H0 H1 locs1 → W p l e R s m args below meth c H1 locs1 cells slots Q (F0 m (pc + 3) ls (v.toList ++ rest))) : W p l e R s m args below meth c H locs cells slots Q (F0 m pc ls st) := by
  intro T hT X
  obtain ⟨v', st₀, t, T', L, h0, X', hL, e1, ⟨hv, hp, hz, hk⟩, st'⟩ := hr T hT X
  cases hv
  rw [h0] at hz hk
  obtain ⟨t2, a1, b1⟩ := kk T'.heap (locs ++ L) (by rw [e1]; exact hp) (by rw [e1]; exact hz) (fun q h1 h2 => by rw [e1]; exact hk q h1 h2)
    ⟨Nat.le_trans hS.1 (by rw [e1]; exact hz), fun q h1 h2 => by rw [e1, hk q (Nat.lt_of_lt_of_le h1 hS.1) (fun z => h2 (hf q z))]; exact hS.2.1 q h1 h2, fun q hq => by
      rcases List.mem_append.mp hq with h | h
      · exact hS.2.2 q h
      · exact hf _ (hL q h)⟩ T' rfl X'
  exact ⟨t2, st' t2 a1, b1⟩
theorem zp_r {v : List Value} {H : Heap} {wc : va_W} (hP : va_P D vwCl wc H) (hK : va_K D vwCl (zT Y) s) (hN : zNw s) : ∀ U : State, U.heap = H → s.WarmedH U.vm → va_Pc v (zB D Y wc) v.toArray U := fun U hU hW => ⟨rfl, by rw [hU]; exact hP, va_K.moved hW.alike hK, zNw.warm hW hN⟩
theorem zp_w {v : List Value} {H : Heap} {wc : va_W} (hP : va_P D vwCl wc H) (hD : va_D A wc) (hK : va_K D vwCl (zT Y) s) (hN : zNw s) : ∀ U : State, U.heap = H → s.WarmedH U.vm → va_Pc v (zBw D Y wc) v.toArray U := fun U hU hW => ⟨rfl, ⟨by rw [hU]; exact hP, va_K.moved hW.alike hK, zNw.warm hW hN⟩, hD.weaken (fun _ _ _ _ => trivial)⟩
end ZROWS
