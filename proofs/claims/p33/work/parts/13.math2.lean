theorem zL_low (L i j : Nat) : zL (L / 2 ^ i * 2 ^ i) j = if j < i then 0 else zL L j := by
  unfold zL
  by_cases c : j < i
  · rw [if_pos c]
    obtain ⟨d, rfl⟩ : ∃ d, i = j + 1 + d := ⟨i - j - 1, by omega⟩
    rw [show L / 2 ^ (j + 1 + d) * 2 ^ (j + 1 + d) = (L / 2 ^ (j + 1 + d) * 2 ^ d * 2) * 2 ^ j from by rw [show 2 ^ (j + 1 + d) = 2 ^ d * 2 * 2 ^ j from by rw [Nat.pow_add, Nat.pow_add, Nat.pow_one, Nat.mul_comm, Nat.mul_assoc, Nat.mul_comm (2 ^ j) 2]]; simp [Nat.mul_assoc], Nat.mul_div_cancel _ (Nat.two_pow_pos j), Nat.mul_mod_left]
  · rw [if_neg c]
    obtain ⟨d, rfl⟩ : ∃ d, j = i + d := ⟨j - i, by omega⟩
    rw [Nat.pow_add, ← Nat.div_div_eq_div_mul, Nat.mul_div_cancel _ (Nat.two_pow_pos i), Nat.div_div_eq_div_mul]
/-- a state with i blocks cleared, and the message -/
def clrI (i : Nat) (σ : Nat → Nat) (q : Nat) : Nat := if q = 7 then σ 7 / 2 ^ i * 2 ^ i else if q = 8 then 0 else if 9 ≤ q ∧ q < 9 + i then 0 else σ q
/-- a state with all blocks cleared, and the message -/
def clr (σ : Nat → Nat) (q : Nat) : Nat := if q = 7 ∨ q = 8 ∨ (9 ≤ q ∧ q < 21) then 0 else σ q
theorem clrI_0 (σ : Nat → Nat) : va_up σ 8 0 = clrI 0 σ := by
  funext q
  unfold va_up clrI
  by_cases h8 : q = 8
  · rw [if_pos h8, if_neg (by omega), if_pos h8]
  · rw [if_neg h8]
    by_cases h7 : q = 7
    · rw [if_pos h7, h7]; simp
    · rw [if_neg h7, if_neg h8, if_neg (by omega)]
theorem clrI_up (i : Nat) (σ : Nat → Nat) : va_up (va_up (clrI i σ) (9 + i) 0) 7 (σ 7 / 2 ^ (i + 1) * 2 ^ (i + 1)) = clrI (i + 1) σ := by
  funext q
  unfold va_up clrI
  by_cases h7 : q = 7
  · rw [if_pos h7, if_pos h7]
  · rw [if_neg h7, if_neg h7, if_neg h7]
    by_cases h8 : q = 8
    · rw [if_neg (by omega), if_pos h8, if_pos h8]
    · rw [if_neg h8, if_neg h8]
      by_cases h9 : q = 9 + i
      · rw [if_pos h9, if_pos (by omega)]
      · rw [if_neg h9]
        by_cases c : 9 ≤ q ∧ q < 9 + i
        · rw [if_pos c, if_pos (by omega)]
        · rw [if_neg c, if_neg (by omega)]
theorem clrI_12 {σ : Nat → Nat} (h : σ 7 < 4096) : clrI 12 σ = clr σ := by
  funext q
  unfold clrI clr
  by_cases h7 : q = 7
  · rw [if_pos h7, if_pos (by omega), Nat.div_eq_of_lt h, Nat.zero_mul]
  · rw [if_neg h7]
    by_cases h8 : q = 8
    · rw [if_pos h8, if_pos (by omega)]
    · rw [if_neg h8]
      by_cases c : 9 ≤ q ∧ q < 9 + 12
      · rw [if_pos c, if_pos (by omega)]
      · rw [if_neg c, if_neg (by omega)]
theorem clrI_l (i : Nat) (σ : Nat → Nat) (j : Nat) : zL (σ 7 / 2 ^ (i + 1) * 2 ^ (i + 1)) j = if j = i then 0 else zL (va_up (clrI i σ) (9 + i) 0 7) j := by
  rw [zL_low, zu_ne _ _ _ (by omega), show clrI i σ 7 = σ 7 / 2 ^ i * 2 ^ i from if_pos rfl, zL_low]
  by_cases c : j = i
  · rw [if_pos c, if_pos (by omega)]
  · rw [if_neg c]
    by_cases d : j < i
    · rw [if_pos d, if_pos (by omega)]
    · rw [if_neg d, if_neg (by omega)]
/-- what a callee that got a part of the world left of it, beside the rest -/
theorem z_join {A0 : Nat → Prop} {D : va_G} {cl : List vw_C} {ws wc wr w1 : va_W} {H H1 : Heap} (hP : va_P D cl ws H) (hD : va_D A0 ws) (isC isR : List Nat) (hC : isC.map (fun i => ws[i]?) = wc.map some) (hR : isR.map (fun i => ws[i]?) = wr.map some) (hn : va_nd isR = true) (hdis : ∀ i ∈ isR, i ∉ isC)
    (hk : ∀ q : Nat, q < H.size → ¬ zA wc q → H1[q]? = H[q]?) (hP1 : va_P D cl w1 H1) (hnC : va_nd isC = true) (he : w1.map Prod.fst = wc.map Prod.fst) : va_P D cl (wr ++ w1) H1 ∧ va_D A0 (wr ++ w1) := by
  have hDc : va_D A0 wc := hD.sub isC hnC hC
  have hAc : ∀ q, zA wc q → A0 q := zA_of hDc
  have hD' : va_D (fun q => A0 q ∨ H.size ≤ q) ws := hD.weaken (fun _ _ _ h => Or.inl h)
  have hDr : va_D A0 wr := hD.sub isR hn hR
  have hD1 : va_D A0 w1 := zD_same hDc he
  have hJ := va_join (A0 := fun q => A0 q ∨ H.size ≤ q) (w1 := w1) hP hD' isC isR hC hR hn hdis (fun q h1 h2 => hk q h1 (fun z => h2 (Or.inl z))) (fun q h => by
    rcases h with z | z
    · exact Or.inl (hAc q z)
    · exact Or.inr z) hP1 (zD_same (A := va_A wc H.size) ((zD_self hDc).weaken (fun _ _ _ h => Or.inl h)) he)
  refine ⟨hJ.1, hJ.2.1, fun k q hq => ?_⟩
  rcases Nat.lt_or_ge k wr.length with c | c
  · rw [List.getElem?_append_left c] at hq; exact hDr.2 k q hq
  · rw [List.getElem?_append_right c] at hq; exact hD1.2 _ q hq
/-- cells at some places are put anew -/
def zput : va_W → List Nat → va_W → va_W
  | ws, i :: is, c :: cs => zput (ws.set i c) is cs
  | ws, [], _ => ws
  | ws, _, [] => ws
theorem zput_at : ∀ (is : List Nat) (ws cs : va_W) (k : Nat) (q : Nat × va_E), is.length = cs.length → (zput ws is cs)[k]? = some q → (∃ j : Nat, cs[j]? = some q) ∨ (ws[k]? = some q ∧ k ∉ is)
  | [], ws, cs, k, q, _, h => by
    have h : ws[k]? = some q := by cases cs <;> exact h
    exact Or.inr ⟨h, List.not_mem_nil⟩
  | i :: is, ws, [], k, q, hl, h => by cases hl
  | i :: is, ws, c :: cs, k, q, hl, h => by
    have h : (zput (ws.set i c) is cs)[k]? = some q := h
    rcases zput_at is (ws.set i c) cs k q (Nat.succ.inj hl) h with ⟨j, hj⟩ | ⟨h1, h2⟩
    · exact Or.inl ⟨j + 1, hj⟩
    · rw [List.getElem?_set] at h1
      by_cases e : i = k
      · rw [if_pos e] at h1
        by_cases hi : i < ws.length
        · rw [if_pos hi] at h1; exact Or.inl ⟨0, h1⟩
        · rw [if_neg hi] at h1; cases h1
      · rw [if_neg e] at h1
        refine Or.inr ⟨h1, fun hm => ?_⟩
        rcases List.mem_cons.mp hm with z | z
        · exact e z.symm
        · exact h2 z
theorem z_put {A0 : Nat → Prop} {D : va_G} {cl : List vw_C} {ws wc w1 : va_W} {H H1 : Heap} (hP : va_P D cl ws H) (hD : va_D A0 ws) (isC : List Nat) (hC : isC.map (fun i => ws[i]?) = wc.map some)
    (hk : ∀ q : Nat, q < H.size → ¬ zA wc q → H1[q]? = H[q]?) (hP1 : va_P D cl w1 H1) (he : w1.map Prod.fst = wc.map Prod.fst) : va_P D cl (zput ws isC w1) H1 := by
  have hl : isC.length = w1.length := by
    have h1 := congrArg List.length hC
    have h2 := congrArg List.length he
    simp only [List.length_map] at h1 h2
    omega
  intro k q hq
  rcases zput_at isC ws w1 k q hl hq with ⟨j, hj⟩ | ⟨h1, h2⟩
  · exact hP1 j q hj
  · have hn : ¬ zA wc q.1 := fun ⟨j, e, hj⟩ => by
      have h3 : (isC.map (fun i => ws[i]?))[j]? = some (some (q.1, e)) := by rw [hC, List.getElem?_map, hj]; rfl
      rw [List.getElem?_map] at h3
      cases h4 : isC[j]? with
      | none => rw [h4] at h3; cases h3
      | some i =>
        rw [h4] at h3
        have h5 : ws[i]? = some (q.1, e) := Option.some.inj h3
        have h6 : i = k := hD.1 i k _ _ h5 h1 rfl
        exact h2 (h6 ▸ List.mem_of_getElem? h4)
    have h7 := hP k q h1
    have h8 : q.1 < H.size := zP_lt hP q.1 ⟨k, q.2, h1⟩
    rcases q with ⟨a, x | o⟩
    · show H1[a]? = _
      rw [hk a h8 hn]; exact h7
    · obtain ⟨r, hr, hob⟩ := h7
      exact ⟨r, hr, by obtain ⟨cell, c1, c2, c3, c4⟩ := hob; exact ⟨cell, by rw [hk a h8 hn]; exact c1, c2, c3, c4⟩⟩
theorem zD_perm {A : Nat → Prop} {ws w1 : va_W} (hD : va_D A ws) (is : List Nat) (hn : va_nd is = true) (hs : is.map (fun i => (ws.map Prod.fst)[i]?) = (w1.map Prod.fst).map some) : va_D A w1 := by
  have hk : ∀ (k : Nat) (q : Nat × va_E), w1[k]? = some q → ∃ (i : Nat) (q' : Nat × va_E), is[k]? = some i ∧ ws[i]? = some q' ∧ q'.1 = q.1 := fun k q hq => by
    have h1 : ((w1.map Prod.fst).map some)[k]? = some (some q.1) := by rw [List.getElem?_map, List.getElem?_map, hq]; rfl
    rw [← hs, List.getElem?_map] at h1
    cases h2 : is[k]? with
    | none => rw [h2] at h1; cases h1
    | some i =>
      rw [h2] at h1
      have h3 : (ws.map Prod.fst)[i]? = some q.1 := Option.some.inj h1
      rw [List.getElem?_map] at h3
      cases h4 : ws[i]? with
      | none => rw [h4] at h3; cases h3
      | some q' => rw [h4] at h3; exact ⟨i, q', rfl, h4, Option.some.inj h3⟩
  refine ⟨fun i j p q hi hj e => ?_, fun k q hq => ?_⟩
  · obtain ⟨a, p', a1, a2, a3⟩ := hk i p hi
    obtain ⟨b, q', b1, b2, b3⟩ := hk j q hj
    have h5 : a = b := hD.1 a b p' q' a2 b2 (by rw [a3, b3, e])
    subst h5
    exact va_nd_inj is hn i j a a1 b1
  · obtain ⟨a, p', a1, a2, a3⟩ := hk k q hq
    rw [← a3]; exact hD.2 a p' a2
theorem z_cellQ {cA : ClassId} {n : Nat} {f g : Nat → Option Nat} (h : ∀ j, j < n → f j = g j) : vp_cell cA (n, .inr (.inr (.inr (.inr f)))) = vp_cell cA (n, .inr (.inr (.inr (.inr g)))) := by
  rw [vp_cell_q, vp_cell_q]
  have e : (fun j : Fin n => va_rf (f j.val)) = (fun j : Fin n => va_rf (g j.val)) := funext fun j => by rw [h j.val j.isLt]
  unfold arrV
  rw [e]
theorem zP_arrQ {D : va_G} {cl : List vw_C} {ws : va_W} {H : Heap} (k : Nat) {a n : Nat} {cA : ClassId} {f : Nat → Option Nat} (g : Nat → Option Nat) (h : va_P D cl ws H) (hk : ws[k]? = some (a, .inl (cA, n, .inr (.inr (.inr (.inr f)))))) (e : ∀ j, j < n → f j = g j) : va_P D cl (ws.set k (a, .inl (cA, n, .inr (.inr (.inr (.inr g)))))) H := zP_cell h hk (z_cellQ e)
section ZROW3
variable {p : Program} {l : Launch} {e : Env} {R : Room} {s : State} {m : MethodId} {args : Array Value} {below : List Frame} {meth : Method} {c : Code} {H : Heap} {locs : List Loc} {cells slots : Nat} {Q : State → Prop} {cc : ByteArray} {pc : Nat} {ls : Array Slot} {rest : List Value} {A : Nat → Prop} {H0 : Heap} {D : va_G} {Y : Nat → ClassId} {ws : va_W} {a : Nat}
theorem za_q (hx : p.tables.exec = Jvm.exec) (hb : c.code = cc) (hK : va_K D vwCl (zT Y) s) (hP : va_P D vwCl ws H) (q0 : Nat) {n N : Nat} {f : Nat → Option Nat} {v : Nat} (ha : ws[q0]? = some (a, .inl (Y 4, N, .inr (.inr (.inr (.inr f)))))) (hn : n < N) (hN : N < 2147483648) (hdg : decode cc pc = .ok (.aaload, 1)) (hv : f n = some v) (k : W p l e R s m args below meth c H locs cells slots Q (F0 m (pc + 1) ls (.ref v :: rest))) : W p l e R s m args below meth c H locs cells slots Q (F0 m pc ls (.int (nI n) :: .ref a :: rest)) := va_aldq hx hb hK hP q0 4 ha rfl (vp_in_nI hn hN) hdg (by rw [nI_clamp (by omega), hv]; exact k)
theorem zs_q (hx : p.tables.exec = Jvm.exec) (hb : c.code = cc) (hK : va_K D vwCl (zT Y) s) (hP : va_P D vwCl ws H) (hD : va_D A ws) (hS : va_S A H0 H locs) (q0 qk : Nat) {n N v : Nat} {vs : List Value} {f : Nat → Option Nat} (ha : ws[q0]? = some (a, .inl (Y 4, N, .inr (.inr (.inr (.inr f)))))) (hvk : ws[qk]? = some (v, .inr (4, vs))) (hn : n < N) (hN : N < 2147483648) (hdg : decode cc pc = .ok (.aastore, 1)) (k : ∀ (H1 : Heap) (locs1 : List Loc), va_P D vwCl (ws.set q0 (a, .inl (Y 4, N, .inr (.inr (.inr (.inr (va_up f n (some v)))))))) H1 → va_D A (ws.set q0 (a, .inl (Y 4, N, .inr (.inr (.inr (.inr (va_up f n (some v)))))))) → va_S A H0 H1 locs1 → W p l e R s m args below meth c H1 locs1 cells slots Q (F0 m (pc + 1) ls (rest))) : W p l e R s m args below meth c H locs cells slots Q (F0 m pc ls (.ref v :: .int (nI n) :: .ref a :: rest)) := va_astq hx hb hK hP hD hS q0 4 qk 4 (r := (RX4, TX4, 7)) ha rfl hvk rfl (vp_in_nI hn hN) hdg (by rw [nI_clamp (by omega)]; exact k)
end ZROW3
/-- the history's rows turned by one -/
def rotB (B : Nat → Nat) (q : Nat) : Nat := if q < 20 then B (q + 4) else B (q - 20)
def rotH (h : Nat → Nat → Nat) (i : Nat) : Nat → Nat := if i < 5 then h (i + 1) else h (i - 5)
def recB (B : Nat → Nat) (hn : Nat) : Nat → Nat := if hn = 6 then rotB B else B
def recH (h : Nat → Nat → Nat) (hn : Nat) (σ : Nat → Nat) : Nat → Nat → Nat := if hn = 6 then va_up (rotH h) 5 σ else va_up h hn σ
def recN (hn : Nat) : Nat := if hn = 6 then 6 else hn + 1
theorem mkP_clear (p : Nat → Bool) {o : Nat} (ho : o < 12) : mkP p &&& (1 * 2 ^ (4 * o) ^^^ 18446744073709551615) = mkP (fun j => p j && !(j == o)) := by
  apply pak_ext (Nat.lt_of_le_of_lt Nat.and_le_left (mkP_lt p)) (mkP_lt _)
  intro i hi
  rw [Nat.testBit_and, Nat.testBit_xor, mkP_bit, mkP_bit, Nat.one_mul, Nat.testBit_two_pow, show (18446744073709551615 : Nat) = 2 ^ 64 - 1 from rfl, Nat.testBit_two_pow_sub_one]
  have h64 : i < 64 := by omega
  by_cases c : i % 4 = 0
  · have e : (4 * o = i) ↔ (i / 4 = o) := by omega
    by_cases d : i / 4 = o
    · simp [hi, c, h64, d, e.mpr d]
    · have d' : ¬ 4 * o = i := fun z => d (e.mp z)
      simp [hi, c, h64, d, d']
  · simp [c]
theorem itC_lt (wd σ : Nat → Nat) (j : Nat) : itC wd σ j < 16 := by
  unfold itC
  split
  · omega
  · have := sym_le wd (σ (9 + j)) 15; omega
theorem faC_le (wd σ : Nat → Nat) (j : Nat) : faC wd σ j ≤ 12 := by
  unfold faC
  split
  · omega
  · exact popc_le _
theorem trC_le (wd : Nat → Nat) (dd : Nat) (σ : Nat → Nat) (j : Nat) : trC wd dd σ j ≤ dd := by
  unfold trC
  split <;> omega
theorem cnt_split (p : Nat → Bool) : ∀ {n k : Nat}, k < n → p k = false → cnt p n < n
  | 0, k, h, _ => absurd h (Nat.not_lt_zero k)
  | n + 1, k, h, hp => by
    show cnt p n + b01 (p n) < n + 1
    by_cases c : k = n
    · subst c
      have := cnt_le p k
      rw [hp]; show cnt p k + 0 < k + 1; omega
    · have h1 := cnt_split p (n := n) (k := k) (by omega) hp
      cases p n <;> simp [b01] <;> omega
theorem bef_lt (r : Nat → Nat) {N j : Nat} (h : j < N) : bef r N j < N := cnt_split _ h (decide_eq_false (by omega))
