/-! the law: rows of its own -/
theorem zNat9 (x : Int32) (h : 0 ≤ x.toInt) : ∃ j : Nat, x = nI j ∧ j < 2147483648 := by
  have h1 := (fb_rng x).2
  refine ⟨x.toInt.toNat, ?_, by omega⟩
  apply Int32.toInt_inj.mp
  rw [zt_n (by omega)]
  omega
theorem and31 (x : Int32) : ∃ j, j < 32 ∧ x &&& nI 31 = nI j := by
  refine ⟨x.toBitVec.toNat % 32, Nat.mod_lt _ (by decide), ?_⟩
  apply Int32.toBitVec_inj.mp
  rw [Int32.toBitVec_and]
  apply BitVec.eq_of_toNat_eq
  have e1 : (nI 31).toBitVec.toNat = 31 := by decide
  have e2 : (nI (x.toBitVec.toNat % 32)).toBitVec = BitVec.ofNat 32 (x.toBitVec.toNat % 32) := rfl
  rw [BitVec.toNat_and, e1, e2, BitVec.toNat_ofNat, show (31 : Nat) = 2 ^ 5 - 1 from rfl, Nat.and_two_pow_sub_one_eq_mod]
  have := Nat.mod_lt x.toBitVec.toNat (show 0 < 32 by decide)
  exact (Nat.mod_eq_of_lt (by omega)).symm
section LROWS
variable {p : Program} {l : Launch} {e : Env} {R : Room} {s : State} {m : MethodId} {args : Array Value} {below : List Frame} {meth : Method} {c : Code} {H : Heap} {locs : List Loc} {cells slots : Nat} {Q : State → Prop} {cc : ByteArray} {pc : Nat} {ls : Array Slot} {rest : List Value} {A : Nat → Prop} {H0 : Heap} {D : va_G} {Y : Nat → ClassId} {ws : va_W} {a : Nat}
theorem zl_sld (hx : p.tables.exec = Jvm.exec) (hb : c.code = cc) {b L : Nat} {xs : Nat → Int32} (hX : va_X b L xs s H0) (hbl : b < H0.size) (hbA : ¬ A b) (hS : va_S A H0 H locs) {n : Nat} (hn : n < L) (hL : L < 2147483648) {v : Int32} (hv : xs n = v) (hdg : decode cc pc = .ok (.iaload, 1))
    (kk : W p l e R s m args below meth c H locs cells slots Q (F0 m (pc + 1) ls (.int v :: rest))) : W p l e R s m args below meth c H locs cells slots Q (F0 m pc ls (.int (nI n) :: .ref b :: rest)) :=
  va_sld hx hb hX hbl hbA hS (vp_in_nI hn hL) hdg (by rw [nI_clamp (by omega), hv]; exact kk)
theorem zD_new {wa wa1 wb : va_W} (hD : va_D A (wa ++ wb)) (hD1 : va_D (zA wa) wa1) : va_D A (wa1 ++ wb) :=
  va_D.app (hD1.weaken (fun k q _ h => zA_of (zD_left hD) q.1 h)) (zD_right hD) (fun i j x y hx hy hxy => zD_off hD (hD1.2 i x hx) ⟨j, y.2, by rw [hxy]; exact hy⟩)
theorem zD_newR {wa wb wb1 : va_W} (hD : va_D A (wa ++ wb)) (hD1 : va_D (zA wb) wb1) : va_D A (wa ++ wb1) :=
  va_D.app (zD_left hD) (hD1.weaken (fun k q _ h => zA_of (zD_right hD) q.1 h)) (fun i j x y hx hy hxy => zD_off hD ⟨i, x.2, hx⟩ (by rw [hxy]; exact hD1.2 j y hy))
theorem zc_wl {v : Option Value} {st : List Value} {aa : Array Value} {wa wb wa1 : va_W} (hr : CallRun p l e R s m args below meth c H locs cells slots 0 0 (F0 m pc ls st) rest (zW v D wa1 (zA wa) aa) (zA wa)) (hP : va_P D vwCl (wa ++ wb) H) (hD : va_D A (wa ++ wb)) (hS : va_S A H0 H locs) (hD1 : va_D (zA wa) wa1)
    (kk : ∀ (H1 : Heap) (locs1 : List Loc), va_P D vwCl (wa1 ++ wb) H1 → va_D A (wa1 ++ wb) → va_S A H0 H1 locs1 → W p l e R s m args below meth c H1 locs1 cells slots Q (F0 m (pc + 3) ls (v.toList ++ rest))) : W p l e R s m args below meth c H locs cells slots Q (F0 m pc ls st) := by
  refine zc_w hr hS (fun q hq => zA_of (zD_left hD) q hq) (fun H1 locs1 hP1 hz hk hS1 => ?_)
  exact kk H1 locs1 (zP_app hP1 (zP_kept (zP_right hP) (zP_lt (zP_right hP)) hk (fun q hq hq2 => zD_off hD hq2 hq))) (zD_new hD hD1) hS1
theorem zc_wr {v : Option Value} {st : List Value} {aa : Array Value} {wa wb wb1 : va_W} (hr : CallRun p l e R s m args below meth c H locs cells slots 0 0 (F0 m pc ls st) rest (zW v D wb1 (zA wb) aa) (zA wb)) (hP : va_P D vwCl (wa ++ wb) H) (hD : va_D A (wa ++ wb)) (hS : va_S A H0 H locs) (hD1 : va_D (zA wb) wb1)
    (kk : ∀ (H1 : Heap) (locs1 : List Loc), va_P D vwCl (wa ++ wb1) H1 → va_D A (wa ++ wb1) → va_S A H0 H1 locs1 → W p l e R s m args below meth c H1 locs1 cells slots Q (F0 m (pc + 3) ls (v.toList ++ rest))) : W p l e R s m args below meth c H locs cells slots Q (F0 m pc ls st) := by
  refine zc_w hr hS (fun q hq => zA_of (zD_right hD) q hq) (fun H1 locs1 hP1 hz hk hS1 => ?_)
  exact kk H1 locs1 (zP_app (zP_kept (zP_left hP) (zP_lt (zP_left hP)) hk (fun q hq hq2 => zD_off hD hq hq2)) hP1) (zD_newR hD hD1) hS1
end LROWS
/-! what holds between two calls -/
def zInv (σ : Nat → Nat) (hn : Nat) (h : Nat → Nat → Nat) (r0 r1 r2 r3 r4 wt : Nat → Nat) (wn : Nat) (hf sy gp : Nat → Nat) : Prop :=
  zWF σ ∧ zCon σ r0 r1 r2 r3 r4 ∧ hn ≤ 6 ∧ (∀ w9, w9 < 2 ^ (σ 2) → sy w9 = syS σ w9) ∧ (∀ w9, w9 < 2 ^ (σ 2) → gp w9 = gpS σ w9) ∧ σ 7 < 2 ^ σ 0 ∧ (∀ j, j < 4 → wt j < 1024) ∧ wn ≤ 4 ∧ (∀ i, i < hn → zWF (h i) ∧ h i 7 < 2 ^ h i 0) ∧ (∀ i, i < hn → ∀ j, j < 21 → hf (21 * i + j) = h i j)
theorem inv_rec {σ : Nat → Nat} {hn : Nat} {h : Nat → Nat → Nat} {r0 r1 r2 r3 r4 wt : Nat → Nat} {wn : Nat} {hf sy gp : Nat → Nat} (hI : zInv σ hn h r0 r1 r2 r3 r4 wt wn hf sy gp) {τ : Nat → Nat} (kτ : zWF τ) (h7 : τ 7 < 2 ^ τ 0) {wt' : Nat → Nat} {wn' : Nat} (hwt : ∀ j, j < 4 → wt' j < 1024) (hwn : wn' ≤ 4) {sy' gp' : Nat → Nat} (hsy : ∀ w9, w9 < 2 ^ (τ 2) → sy' w9 = syS τ w9) (hgp : ∀ w9, w9 < 2 ^ (τ 2) → gp' w9 = gpS τ w9) :
    zInv τ (recN hn) (recH h hn σ) (ag0 τ r0) (ag1 τ r1) (ag2 τ r2) (ag3 τ r2 r3) (ag4 τ r2 r4) wt' wn' (recF hf hn σ) sy' gp' := by
  obtain ⟨kσ, kr, khn, ksy, kgp, kM, kwt, kwn, kh, kf⟩ := hI
  refine ⟨kτ, zCon_ag τ r0 r1 r2 r3 r4, ?_, hsy, hgp, h7, hwt, hwn, fun i hi => ?_, fun i hi j hj => ?_⟩
  · unfold recN; split <;> omega
  · unfold recN at hi
    unfold recH
    by_cases c : hn = 6
    · rw [if_pos c]
      unfold va_up rotH
      by_cases d : i = 5
      · rw [if_pos d]; exact ⟨kσ, kM⟩
      · rw [if_neg d, if_pos (by rw [if_pos c] at hi; omega)]
        exact kh (i + 1) (by rw [if_pos c] at hi; omega)
    · rw [if_neg c]
      unfold va_up
      by_cases d : i = hn
      · rw [if_pos d]; exact ⟨kσ, kM⟩
      · rw [if_neg d]
        exact kh i (by rw [if_neg c] at hi; omega)
  · unfold recN at hi
    unfold recH recF
    by_cases c : hn = 6
    · rw [if_pos c] at hi
      rw [if_pos c, if_pos c]
      unfold va_up rotH
      by_cases d : i = 5
      · rw [if_pos d, if_neg (by omega), d]
        congr 1
        omega
      · rw [if_neg d, if_pos (by omega), if_pos (by omega)]
        rw [show 21 * i + j + 21 = 21 * (i + 1) + j by omega]
        exact kf (i + 1) (by omega) j hj
    · rw [if_neg c] at hi
      rw [if_neg c, if_neg c]
      unfold va_up cpf
      by_cases d : i = hn
      · rw [if_pos d, if_pos (by omega), d]
        congr 1
        omega
      · rw [if_neg d, if_neg (by omega)]
        exact kf i (by omega) j hj
/-- a change that leaves the inner code as it is -/
theorem inv_same {σ : Nat → Nat} {hn : Nat} {h : Nat → Nat → Nat} {r0 r1 r2 r3 r4 wt : Nat → Nat} {wn : Nat} {hf sy gp : Nat → Nat} (hI : zInv σ hn h r0 r1 r2 r3 r4 wt wn hf sy gp) {τ : Nat → Nat} (kτ : zWF τ) (h7 : τ 7 < 2 ^ τ 0) (h2 : τ 2 = σ 2) (hg : ∀ i, i < 4 → τ (3 + i) = σ (3 + i)) :
    zInv τ (recN hn) (recH h hn σ) (ag0 τ r0) (ag1 τ r1) (ag2 τ r2) (ag3 τ r2 r3) (ag4 τ r2 r4) wt wn (recF hf hn σ) sy gp :=
  inv_rec hI kτ h7 hI.2.2.2.2.2.2.1 hI.2.2.2.2.2.2.2.1 (sy_keep hg h2 hI.2.2.2.1) (gp_keep hg h2 hI.2.2.2.2.1)
theorem inv_undo {σ : Nat → Nat} {hn : Nat} {h : Nat → Nat → Nat} {r0 r1 r2 r3 r4 wt : Nat → Nat} {wn : Nat} {hf sy gp : Nat → Nat} (hI : zInv σ hn h r0 r1 r2 r3 r4 wt wn hf sy gp) (h0 : 0 < hn) :
    zInv (h (hn - 1)) (hn - 1) h (ag0 (h (hn - 1)) r0) (ag1 (h (hn - 1)) r1) (ag2 (h (hn - 1)) r2) (ag3 (h (hn - 1)) r2 r3) (ag4 (h (hn - 1)) r2 r4) wt wn hf (zmx (2 ^ (h (hn - 1) 2)) (syS (h (hn - 1))) sy) (zmx (2 ^ (h (hn - 1) 2)) (gpS (h (hn - 1))) gp) := by
  obtain ⟨kσ, kr, khn, ksy, kgp, kM, kwt, kwn, kh, kf⟩ := hI
  have h1 := kh (hn - 1) (by omega)
  exact ⟨h1.1, zCon_ag _ r0 r1 r2 r3 r4, by omega, fun w9 h9 => zmx_in _ _ h9, fun w9 h9 => zmx_in _ _ h9, h1.2, kwt, kwn, fun i hi => kh i (by omega), fun i hi j hj => kf i (by omega) j hj⟩
theorem inv_wait {σ : Nat → Nat} {hn : Nat} {h : Nat → Nat → Nat} {r0 r1 r2 r3 r4 wt : Nat → Nat} {wn : Nat} {hf sy gp : Nat → Nat} (hI : zInv σ hn h r0 r1 r2 r3 r4 wt wn hf sy gp) {wt' : Nat → Nat} {wn' : Nat} (hwt : ∀ j, j < 4 → wt' j < 1024) (hwn : wn' ≤ 4) : zInv σ hn h r0 r1 r2 r3 r4 wt' wn' hf sy gp := by
  obtain ⟨kσ, kr, khn, ksy, kgp, kM, kwt, kwn, kh, kf⟩ := hI
  exact ⟨kσ, kr, khn, ksy, kgp, kM, hwt, hwn, kh, kf⟩
theorem clr_7 (σ : Nat → Nat) : clr σ 7 = 0 := rfl
theorem los_7 {σ : Nat → Nat} {j v : Nat} (hM : σ 7 < 2 ^ σ 0) (hj : j < σ 0) : losM (σ 7) j v < 2 ^ σ 0 := by
  have h1 : 2 ^ j < 2 ^ σ 0 := Nat.pow_lt_pow_right (by decide) hj
  have h2 := Nat.or_lt_two_pow hM h1
  unfold losM
  split
  · exact h2
  · exact Nat.xor_lt_two_pow h2 h1
theorem flp_7 {σ : Nat → Nat} {j mk : Nat} (hM : σ 7 < 2 ^ σ 0) : flpS σ j mk 7 < 2 ^ flpS σ j mk 0 := by
  rw [show flpS σ j mk 7 = σ 7 from flp_lo _ _ _ (by decide), show flpS σ j mk 0 = σ 0 from flp_lo _ _ _ (by decide)]; exact hM
theorem bur_7 {σ : Nat → Nat} {st en n : Nat} (hM : σ 7 < 2 ^ σ 0) : burI σ st en n 7 < 2 ^ burI σ st en n 0 := by
  rw [burI_out _ _ _ _ (by omega), burI_out _ _ _ _ (by omega)]; exact hM
theorem cas_7 {σ : Nat → Nat} {m n : Nat} (hM : σ 7 < 2 ^ σ 0) : casI σ m n 7 < 2 ^ casI σ m n 0 := by
  rw [casI_out _ _ _ (by omega), casI_out _ _ _ (by omega)]; exact hM
theorem snd_2 (σ : Nat → Nat) (m n : Nat) : sndI σ m n 2 = σ 2 := by
  unfold sndI
  rw [if_neg (by omega)]; rfl
theorem blk_bad {σ : Nat → Nat} {y x : Int} (hbad : ¬ ((0 ≤ y ∧ y < ((σ 0 : Nat) : Int)) ∧ 0 ≤ x ∧ x ≤ 4)) : blockV σ y x = -1001 := by
  unfold blockV
  by_cases c : 0 ≤ y ∧ y < ((σ 0 : Nat) : Int)
  · rw [if_pos c, if_neg (by omega), if_neg (by omega), if_neg (by omega), if_neg (by omega), if_neg (by omega)]
  · rw [if_neg c]
