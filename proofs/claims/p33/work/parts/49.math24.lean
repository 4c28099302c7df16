/-! what the property says of one state -/
theorem dmin_low {W : Nat → Nat} {c : Nat} : ∀ i j, 0 < j → j < i → dmin W c i ≤ popc (W j)
  | 0, j, _, h => absurd h (Nat.not_lt_zero j)
  | i + 1, j, h0, h => by
    have e : dmin W c (i + 1) = if i = 0 then c else min (dmin W c i) (popc (W i)) := rfl
    rw [e, if_neg (by omega)]
    by_cases d : j = i
    · rw [d]; exact Nat.min_le_right _ _
    · exact Nat.le_trans (Nat.min_le_left _ _) (dmin_low i j h0 (by omega))
theorem dmin_pos {W : Nat → Nat} {c : Nat} (hc : 0 < c) : ∀ i, (∀ j, 0 < j → j < i → 0 < popc (W j)) → 0 < dmin W c i
  | 0, _ => hc
  | i + 1, h => by
    have e : dmin W c (i + 1) = if i = 0 then c else min (dmin W c i) (popc (W i)) := rfl
    rw [e]
    by_cases d : i = 0
    · rw [if_pos d]; exact hc
    · rw [if_neg d]
      have h1 := dmin_pos hc i (fun j a b => h j a (by omega))
      have h2 := h i (by omega) (by omega)
      omega
theorem dd_low {σ : Nat → Nat} {s : Nat} (h0 : 0 < s) (hs : s < 16) : ddS σ ≤ popc (wdS σ s) := dmin_low 16 s h0 hs
theorem dd_pos {σ : Nat → Nat} (kσ : zWF σ) : 0 < ddS σ := dmin_pos (by decide) 16 (fun j h0 h => popc_pos (zwd_1024 kσ j) (kσ.2.2.2.2.2.2.2.2.2.2.2 j h0 h))
theorem wd_xor (σ : Nat → Nat) (a b : Nat) : wdS σ (a ^^^ b) = wdS σ a ^^^ wdS σ b := gw_xor _ _ _ _
theorem dd_apart {σ : Nat → Nat} {a b : Nat} (ha : a < 16) (hb : b < 16) (h : a ≠ b) : ddS σ ≤ popc (wdS σ a ^^^ wdS σ b) := by
  rw [← wd_xor]
  exact dd_low (Nat.pos_of_ne_zero (fun z => h (x_zero z))) (x16 ha hb)
theorem k_4096 {σ : Nat → Nat} (kσ : zWF σ) : nMs σ ≤ 4096 := zp_k kσ.2.2.2.1
/-- a block's part of the score is the less by its wrong bits, or by its loss -/
theorem pt_low {σ : Nat → Nat} {j : Nat} (hj : j < 12) (h8 : σ 8 < 4096) : ((ddS σ : Nat) : Int) - 2 * (((if zL (σ 7) j = 1 then 0 else popc (σ (9 + j) ^^^ wdS σ (zcw (σ 8) j))) : Nat) : Int) - ((ddS σ * zL (σ 7) j : Nat) : Int) ≤ ptS σ j := by
  have hz := zL_01 (σ 7) j
  by_cases c : zL (σ 7) j = 1
  · have e2 : trS σ j = 0 := by unfold trS trC; rw [if_pos c]
    have e3 : ptS σ j = 0 := by unfold ptS; rw [e2]; split <;> rfl
    rw [e3, if_pos c, c, Nat.mul_one]; omega
  · have e1 : itS σ j = syS σ (σ (9 + j)) := by unfold itS itC; rw [if_neg c]; rfl
    have e2 : trS σ j = ddS σ - 2 * gpS σ (σ (9 + j)) := by unfold trS trC faC; rw [if_neg c, if_neg c]; rfl
    have hzc : zcw (σ 8) j < 16 := zcw_lt h8 hj
    have hsy := syS_lt σ (σ (9 + j))
    have hg : gpS σ (σ (9 + j)) ≤ popc (σ (9 + j) ^^^ wdS σ (zcw (σ 8) j)) := sym_min (wdS σ) (σ (9 + j)) 15 _ (by omega)
    rw [if_neg c, show zL (σ 7) j = 0 by omega, Nat.mul_zero]
    unfold ptS
    rw [e1, e2]
    by_cases d : syS σ (σ (9 + j)) = zcw (σ 8) j
    · rw [if_pos d]
      have e4 : gpS σ (σ (9 + j)) = popc (σ (9 + j) ^^^ wdS σ (zcw (σ 8) j)) := by rw [← d]; rfl
      rw [e4]; omega
    · rw [if_neg d]
      have h1 := dd_apart (σ := σ) hsy hzc d
      have h2 := popc_tri (wdS σ (syS σ (σ (9 + j)))) (σ (9 + j)) (wdS σ (zcw (σ 8) j))
      have h3 : popc (wdS σ (syS σ (σ (9 + j))) ^^^ σ (9 + j)) = gpS σ (σ (9 + j)) := by rw [Nat.xor_comm]; rfl
      rw [h3] at h2
      omega
theorem sc_low {σ : Nat → Nat} (h8 : σ 8 < 4096) : ∀ n, n ≤ 12 → ((ddS σ * n : Nat) : Int) - 2 * ((wrN (wdS σ) σ n : Nat) : Int) - ((ddS σ * lostN σ n : Nat) : Int) ≤ smI (ptS σ) n
  | 0, _ => by
    show ((ddS σ * 0 : Nat) : Int) - 2 * ((0 : Nat) : Int) - ((ddS σ * 0 : Nat) : Int) ≤ 0
    rw [Nat.mul_zero]; decide
  | n + 1, h => by
    have ih := sc_low h8 n (by omega)
    have h1 := pt_low (σ := σ) (j := n) (by omega) h8
    show ((ddS σ * (n + 1) : Nat) : Int) - 2 * ((wrN (wdS σ) σ n + (if zL (σ 7) n = 1 then 0 else popc (σ (9 + n) ^^^ wdS σ (zcw (σ 8) n))) : Nat) : Int) - ((ddS σ * (lostN σ n + zL (σ 7) n) : Nat) : Int) ≤ smI (ptS σ) n + ptS σ n
    rw [Nat.mul_add, Nat.mul_add, Nat.mul_one]
    generalize (if zL (σ 7) n = 1 then 0 else popc (σ (9 + n) ^^^ wdS σ (zcw (σ 8) n))) = x at h1 ⊢
    generalize ddS σ * n = a at ih ⊢
    generalize ddS σ * lostN σ n = b at ih ⊢
    generalize ddS σ * zL (σ 7) n = c at h1 ⊢
    omega
/-- with the guarantee what was sent passes the bar -/
theorem guar_law {σ : Nat → Nat} (kσ : zWF σ) (h : 2 * wrN (wdS σ) σ (σ 0) + ddS σ * lostN σ (σ 0) < ddS σ * (σ 0 - σ 1 + 1)) : ((barS σ : Nat) : Int) < scS σ (σ 8) := by
  have k4 := k_4096 kσ
  obtain ⟨n3, n12, d1, d3, dn, b4, b10, gl, lm, sn, wl, wnz⟩ := id kσ
  have sn9 : σ 8 < nMs σ := sn
  have h1 := sc_low (σ := σ) (by omega) (σ 0) n12
  have h3 : ddS σ * σ 0 = ddS σ * (σ 0 - (σ 0 - σ 1 + 1)) + ddS σ * (σ 0 - σ 1 + 1) := by rw [← Nat.mul_add, show σ 0 - (σ 0 - σ 1 + 1) + (σ 0 - σ 1 + 1) = σ 0 by omega]
  unfold scS barS
  rw [scS_sm (σ 0) (Nat.le_refl _)]
  rw [h3] at h1
  generalize ddS σ * (σ 0 - (σ 0 - σ 1 + 1)) = a at h1 ⊢
  generalize ddS σ * (σ 0 - σ 1 + 1) = b at h h1
  generalize ddS σ * lostN σ (σ 0) = c at h h1
  omega
theorem law_sent {σ : Nat → Nat} (kσ : zWF σ) (h : ((barS σ : Nat) : Int) < scS σ (σ 8)) : lawM σ < nMs σ ∧ lawM σ = σ 8 := by
  have sn : σ 8 < nMs σ := kσ.2.2.2.2.2.2.2.2.2.1
  have h1 := zfst_ex sn (law_t kσ h)
  exact ⟨h1, law_one kσ h1 sn (zfst_sp h1).1 (law_t kσ h)⟩
/-! a trial has one result -/
theorem kp_cnt (σ : Nat → Nat) {s : Nat} (hs : s ≤ σ 0) : cnt (kpB σ s) (σ 0) = σ 0 - s := by
  have h1 := smT_one σ (σ 0 - s) (by omega)
  rw [show σ 0 - (σ 0 - s) = s by omega] at h1
  have h2 : smT (fun _ => 1) (plS σ) (σ 0) s = ((cnt (fun j => true && kpB σ s j) (σ 0) : Nat) : Int) := smT_cnt σ (fun _ => true) s
  have h4 : cnt (fun j => true && kpB σ s j) (σ 0) = cnt (kpB σ s) (σ 0) := cnt_cong (fun j _ => rfl)
  rw [h1, h4] at h2
  omega
theorem cnt_add3 {p q r t : Nat → Bool} : ∀ {n : Nat}, (∀ i, i < n → b01 (p i) ≤ b01 (q i) + (b01 (r i) + b01 (t i))) → cnt p n ≤ cnt q n + (cnt r n + cnt t n)
  | 0, _ => Nat.zero_le _
  | n + 1, h => by
    have ih := cnt_add3 (p := p) (q := q) (r := r) (t := t) (n := n) (fun i hi => h i (by omega))
    have h1 := h n (by omega)
    show cnt p n + b01 (p n) ≤ cnt q n + b01 (q n) + (cnt r n + b01 (r n) + (cnt t n + b01 (t n)))
    omega
theorem res_one {σ : Nat → Nat} (kσ : zWF σ) {s m o : Nat} (hs : s < σ 0 - σ 1 + 1) (hm : m < nMs σ) (ho : o < nMs σ) (h1 : resB σ s m = true) (h2 : resB σ s o = true) : m = o := by
  obtain ⟨n3, n12, d1, d3, dn, b4, b10, gl, lm, sn, wl, wnz⟩ := id kσ
  by_cases c : m = o
  · exact c
  · exfalso
    have h3 := eq_few (n := σ 0) d1 d3 n12 hm ho c
    have h4 := kp_cnt σ (s := s) (by omega)
    have a1 : 2 * cnt (fun j => difB σ m j && kpB σ s j) 12 + s < σ 0 - σ 1 + 1 := of_decide_eq_true h1
    have a2 : 2 * cnt (fun j => difB σ o j && kpB σ s j) 12 + s < σ 0 - σ 1 + 1 := of_decide_eq_true h2
    have e : ∀ q, cnt (fun j => difB σ q j && kpB σ s j) 12 = cnt (fun j => difB σ q j && kpB σ s j) (σ 0) := fun q => cnt_out (n := σ 0) n12 (fun j hj => by
      show (difB σ q j && kpB σ s j) = false
      unfold difB
      rw [decide_eq_false (by omega)]; rfl)
    rw [e m] at a1
    rw [e o] at a2
    have h5 : cnt (kpB σ s) (σ 0) ≤ cnt (fun j => zcw m j == zcw o j) (σ 0) + (cnt (fun j => difB σ m j && kpB σ s j) (σ 0) + cnt (fun j => difB σ o j && kpB σ s j) (σ 0)) := cnt_add3 (fun i hi => by
      show b01 (kpB σ s i) ≤ b01 (zcw m i == zcw o i) + (b01 (difB σ m i && kpB σ s i) + b01 (difB σ o i && kpB σ s i))
      have e1 : b01 (true && true) = 1 := rfl
      have e2 : b01 true = 1 := rfl
      cases hk : kpB σ s i
      · exact Nat.zero_le _
      · by_cases d : zcw m i = zcw o i
        · rw [show (zcw m i == zcw o i) = true from by rw [d]; exact beq_self_eq_true _]; exact Nat.le_add_right _ _
        · by_cases f : zcw m i = itS σ i
          · rw [difB_t (m := o) hi (fun z => d (by rw [f, z])), e1, e2]; omega
          · rw [difB_t (m := m) hi (fun z => f z.symm), e1, e2]; omega)
    omega
theorem tri_at {σ : Nat → Nat} (kσ : zWF σ) {t : Nat} (hlm : lawM σ < nMs σ) (ht : t < σ 0 - σ 1 + 1) (h : resB σ t (lawM σ) = true) : trialV σ (nI t).toInt = nI (lawM σ) := by
  obtain ⟨n3, n12, d1, d3, dn, b4, b10, gl, lm, sn, wl, wnz⟩ := id kσ
  have e := zt_n (n := t) (by omega)
  unfold trialV
  rw [if_pos (by omega), zToI (by omega)]
  exact (orI_at (fun x hx => by
    cases c : resB σ t x
    · rfl
    · exact absurd (res_one kσ ht (by omega) hlm c h) (by omega)) h hlm).symm
/-! where decoding succeeds, and where not -/
theorem hold_yes {σ : Nat → Nat} (kσ : zWF σ) (hlm : lawM σ < nMs σ) : ∃ t g w q : Nat, t < σ 0 - σ 1 + 1 ∧ lawM σ < 4096 ∧ q < 4096 ∧ g < 2 ∧ w < σ 0 - σ 1 + 1 ∧ decodeV σ = nI (lawM σ) ∧ lawfulV σ = nI 1 ∧ decTV σ = nI t ∧ trialV σ (nI t).toInt = nI (lawM σ) ∧ marginV σ = zI (scS σ (lawM σ) - ((barS σ : Nat) : Int)) ∧ ((barS σ : Nat) : Int) < scS σ (lawM σ) ∧ scoreV σ (nI (lawM σ)).toInt = zI (scS σ (lawM σ)) ∧ guarV σ = nI g ∧ (g = 0 ∨ lawM σ = σ 8) ∧ wastedV σ = nI w ∧ nearV σ (nI 0).toInt = nI (σ 0 - σ 1 + 1) ∧ nearV σ (nI 1).toInt = nI q ∧ q ≠ lawM σ := by
  have k4 := k_4096 kσ
  obtain ⟨n3, n12, d1, d3, dn, b4, b10, gl, lm, sn, wl, wnz⟩ := id kσ
  have hb : ((barS σ : Nat) : Int) < scS σ (lawM σ) := law_lt (zfst_sp hlm).1
  obtain ⟨s, hs1, hs2⟩ := forney d1 n12 hb
  have ht := zfst_ex (p := fun s => resB σ s (lawM σ)) hs1 hs2
  have hr : resB σ (zfst (fun s => resB σ s (lawM σ)) (σ 0 - σ 1 + 1)) (lawM σ) = true := (zfst_sp ht).1
  have hnb := (nb_end kσ hlm).2
  have hg : ∃ g : Nat, g < 2 ∧ guarV σ = nI g ∧ (g = 0 ∨ lawM σ = σ 8) := by
    by_cases c : 2 * wrN (wdS σ) σ (σ 0) + ddS σ * lostN σ (σ 0) < ddS σ * (σ 0 - σ 1 + 1)
    · exact ⟨1, by decide, (guar_t c).symm, Or.inr (law_sent kσ (guar_law kσ c)).2⟩
    · exact ⟨0, by decide, (guar_f c).symm, Or.inl rfl⟩
  obtain ⟨g, g1, g2, g3⟩ := hg
  have em := zt_n (n := lawM σ) (by omega)
  have hp : ((2 ^ (4 * σ 1) : Nat) : Int) = ((nMs σ : Nat) : Int) := rfl
  refine ⟨zfst (fun s => resB σ s (lawM σ)) (σ 0 - σ 1 + 1), g, cnt (fun s => !resB σ s (lawM σ)) (σ 0 - σ 1 + 1), zfst (neB σ (lawM σ)) (nMs σ), ht, by omega, by omega, g1, cnt_split _ ht (by show (!resB σ _ (lawM σ)) = false; rw [hr]; rfl), ?_, ?_, ?_, tri_at kσ hlm ht hr, ?_, hb, ?_, g2, g3, ?_, ?_, ?_, ?_⟩
  · exact if_pos hlm
  · exact if_pos hlm
  · unfold decTV; rw [if_pos hlm]; exact if_pos ht
  · exact if_pos hlm
  · unfold scoreV; rw [if_pos (by omega), zToI (by omega)]
  · exact if_pos hlm
  · unfold nearV; rw [show (nI 0).toInt = 0 from by decide, if_pos (by decide), if_pos hlm, if_pos rfl]
  · unfold nearV; rw [show (nI 1).toInt = 1 from by decide, if_pos (by decide), if_pos hlm, if_neg (by decide)]; exact if_pos hnb
  · intro z
    have h9 : cnt (dcB σ (lawM σ) (zfst (neB σ (lawM σ)) (nMs σ))) 12 = σ 0 - σ 1 + 1 := of_decide_eq_true (zfst_sp hnb).1
    rw [z, cnt_zero (fun j _ => by unfold dcB; rw [beq_self_eq_true]; exact Bool.and_false _)] at h9
    omega
theorem hold_no {σ : Nat → Nat} (kσ : zWF σ) (hlm : ¬ lawM σ < nMs σ) : decodeV σ = -1004 ∧ lawfulV σ = nI 0 ∧ decTV σ = -1004 ∧ guarV σ = nI 0 ∧ wastedV σ = nI (σ 0 - σ 1 + 1) := by
  refine ⟨if_neg hlm, if_neg hlm, if_neg hlm, ?_, if_neg hlm⟩
  by_cases c : 2 * wrN (wdS σ) σ (σ 0) + ddS σ * lostN σ (σ 0) < ddS σ * (σ 0 - σ 1 + 1)
  · exact absurd (law_sent kσ (guar_law kσ c)).1 hlm
  · exact (guar_f c).symm
/-! what was sent stands there -/
def zCl (σ : Nat → Nat) : Prop := ∀ j, j < σ 0 → zL (σ 7) j = 0 ∧ σ (9 + j) = wdS σ (zcw (σ 8) j)
theorem sy_at {σ : Nat → Nat} (kσ : zWF σ) {s : Nat} (hs : s < 16) : syS σ (wdS σ s) = s := by
  have h1 : gpS σ (wdS σ s) ≤ popc (wdS σ s ^^^ wdS σ s) := sym_min (wdS σ) (wdS σ s) 15 s (by omega)
  rw [Nat.xor_self, popc_0] at h1
  by_cases c : syS σ (wdS σ s) = s
  · exact c
  · have h2 := dd_apart (σ := σ) hs (syS_lt σ (wdS σ s)) (fun z => c z.symm)
    have h3 := dd_pos kσ
    have h4 : gpS σ (wdS σ s) = popc (wdS σ s ^^^ wdS σ (syS σ (wdS σ s))) := rfl
    omega
theorem cl_it {σ : Nat → Nat} (kσ : zWF σ) (hc : zCl σ) {j : Nat} (hj : j < σ 0) : itS σ j = zcw (σ 8) j ∧ trS σ j = ddS σ := by
  have k4 := k_4096 kσ
  obtain ⟨n3, n12, d1, d3, dn, b4, b10, gl, lm, sn, wl, wnz⟩ := id kσ
  have sn9 : σ 8 < nMs σ := sn
  have hzc : zcw (σ 8) j < 16 := zcw_lt (by omega) (by omega)
  obtain ⟨h7, h9⟩ := hc j hj
  have e1 : itS σ j = syS σ (σ (9 + j)) := by unfold itS itC; rw [if_neg (by omega)]; rfl
  rw [h9, sy_at kσ hzc] at e1
  refine ⟨e1, ?_⟩
  unfold trS trC faC
  rw [if_neg (by omega), if_neg (by omega)]
  have hs : sym (wdS σ) (wdS σ (zcw (σ 8) j)) 15 = zcw (σ 8) j := sy_at kσ hzc
  rw [h9, hs, Nat.xor_self, popc_0, Nat.mul_zero, Nat.sub_zero]
theorem cl_n {σ : Nat → Nat} (hc : zCl σ) : ∀ n, n ≤ σ 0 → wrN (wdS σ) σ n = 0 ∧ lostN σ n = 0
  | 0, _ => ⟨rfl, rfl⟩
  | n + 1, h => by
    obtain ⟨h1, h2⟩ := cl_n hc n (by omega)
    obtain ⟨h7, h9⟩ := hc n (by omega)
    constructor
    · show wrN (wdS σ) σ n + (if zL (σ 7) n = 1 then 0 else popc (σ (9 + n) ^^^ wdS σ (zcw (σ 8) n))) = 0
      rw [h1, h9, Nat.xor_self, popc_0]; split <;> rfl
    · show lostN σ n + zL (σ 7) n = 0
      omega
theorem cl_sc {σ : Nat → Nat} (kσ : zWF σ) (hc : zCl σ) : scS σ (σ 8) = ((ddS σ * σ 0 : Nat) : Int) := by
  unfold scS
  rw [scS_sm (σ 0) (Nat.le_refl _), smI_cong (g := fun _ => ((ddS σ : Nat) : Int)) (fun j hj => by
    obtain ⟨e1, e2⟩ := cl_it kσ hc hj
    unfold ptS
    rw [if_pos e1, e2]), smI_const, Int.natCast_mul, Int.mul_comm]
theorem cl_all {σ : Nat → Nat} (kσ : zWF σ) (hc : zCl σ) : decodeV σ = nI (σ 8) ∧ decTV σ = nI 0 ∧ marginV σ = nI (ddS σ * (σ 0 - σ 1 + 1)) ∧ wrN (wdS σ) σ (σ 0) = 0 ∧ guarV σ = nI 1 := by
  obtain ⟨n3, n12, d1, d3, dn, b4, b10, gl, lm, sn, wl, wnz⟩ := id kσ
  obtain ⟨h1, h2⟩ := cl_n hc (σ 0) (Nat.le_refl _)
  have hd := Nat.mul_pos (dd_pos kσ) (show 0 < σ 0 - σ 1 + 1 by omega)
  have hg : 2 * wrN (wdS σ) σ (σ 0) + ddS σ * lostN σ (σ 0) < ddS σ * (σ 0 - σ 1 + 1) := by
    rw [h1, h2, Nat.mul_zero, Nat.mul_zero]; exact hd
  obtain ⟨l1, l2⟩ := law_sent kσ (guar_law kσ hg)
  refine ⟨?_, ?_, ?_, h1, (guar_t hg).symm⟩
  · rw [← l2]; exact if_pos l1
  · unfold decTV
    rw [if_pos l1]
    refine (orI_at (t := 0) (fun x hx => absurd hx (Nat.not_lt_zero x)) ?_ (by omega)).symm
    show resB σ 0 (lawM σ) = true
    unfold resB
    rw [l2, cnt_zero (fun j hj => by
      by_cases c : j < σ 0
      · rw [difB_f c (cl_it kσ hc c).1]; rfl
      · unfold difB; rw [decide_eq_false c]; rfl)]
    exact decide_eq_true (by omega)
  · unfold marginV
    rw [if_pos l1, l2, cl_sc kσ hc]
    apply zI_of
    have h3 : ddS σ * σ 0 = ddS σ * (σ 0 - (σ 0 - σ 1 + 1)) + ddS σ * (σ 0 - σ 1 + 1) := by rw [← Nat.mul_add, show σ 0 - (σ 0 - σ 1 + 1) + (σ 0 - σ 1 + 1) = σ 0 by omega]
    unfold barS
    rw [h3]
    generalize ddS σ * (σ 0 - (σ 0 - σ 1 + 1)) = a
    generalize ddS σ * (σ 0 - σ 1 + 1) = b
    omega
theorem cl_snd {σ : Nat → Nat} {m : Nat} : zCl (sndI σ m (σ 0)) := by
  intro j hj
  rw [sndI_lo σ m (σ 0) (q := 0) (by decide)] at hj
  have e7 : sndI σ m (σ 0) 7 = 0 := by unfold sndI; rw [if_neg (by omega), zu_ne _ _ _ (by decide)]; rfl
  have e8 : sndI σ m (σ 0) 8 = m := by unfold sndI; rw [if_neg (by omega), zu_eq]
  rw [e7, e8, wd_same (snd_g σ m (σ 0))]
  refine ⟨by unfold zL; rw [Nat.zero_div], ?_⟩
  unfold sndI
  rw [if_pos (by omega), show 9 + j - 9 = j by omega]
theorem zcw_0 {j : Nat} (hj : j < 12) : zcw 0 j = 0 := by
  have h : (List.range 12).all (fun j => zcw 0 j == 0) = true := by decide +kernel
  exact eq_of_beq (List.all_eq_true.mp h j (List.mem_range.mpr hj))
theorem cl_out {σ : Nat → Nat} {i k : Nat} (hi : i ≤ 12) : zCl (outS σ i k) := by
  intro j hj
  have hj2 : j < i := hj
  have e7 : outS σ i k 7 = 0 := rfl
  have e8 : outS σ i k 8 = 0 := rfl
  have e9 : outS σ i k (9 + j) = 0 := clr_w _ (by omega)
  rw [e7, e8, e9, zcw_0 (by omega), wdS_0]
  exact ⟨by unfold zL; rw [Nat.zero_div], rfl⟩
/-! the second stage -/
theorem cas_wr (σ : Nat → Nat) (m : Nat) : ∀ i, i ≤ σ 0 → wrN (wdS (casI σ m (σ 0))) (casI σ m (σ 0)) i ≤ casN σ m i ∧ (lostN (casI σ m (σ 0)) i = 0 → wrN (wdS (casI σ m (σ 0))) (casI σ m (σ 0)) i = casN σ m i)
  | 0, _ => ⟨Nat.le_refl _, fun _ => rfl⟩
  | i + 1, h => by
    obtain ⟨h1, h2⟩ := cas_wr σ m i (by omega)
    have e8 : casI σ m (σ 0) 8 = m := by unfold casI; rw [if_neg (by omega), zu_eq]
    have e9 : casI σ m (σ 0) (9 + i) = wdS σ (zcw m i) ^^^ rotW (σ 2) (σ (9 + i) ^^^ wdS σ (zcw m i)) := by
      unfold casI
      rw [if_pos (by omega), show 9 + i - 9 = i by omega]
    have ew := wd_same (cas_g σ m (σ 0))
    have ep : popc (casI σ m (σ 0) (9 + i) ^^^ wdS (casI σ m (σ 0)) (zcw (casI σ m (σ 0) 8) i)) = popc (rotW (σ 2) (σ (9 + i) ^^^ wdS σ (zcw m i))) := by
      rw [e8, e9, ew, Nat.xor_comm (wdS σ (zcw m i)), Nat.xor_assoc, Nat.xor_self, Nat.xor_zero]
    have hz := zL_01 (casI σ m (σ 0) 7) i
    have e1 : wrN (wdS (casI σ m (σ 0))) (casI σ m (σ 0)) (i + 1) = wrN (wdS (casI σ m (σ 0))) (casI σ m (σ 0)) i + (if zL (casI σ m (σ 0) 7) i = 1 then 0 else popc (casI σ m (σ 0) (9 + i) ^^^ wdS (casI σ m (σ 0)) (zcw (casI σ m (σ 0) 8) i))) := rfl
    have e2 : casN σ m (i + 1) = casN σ m i + popc (rotW (σ 2) (σ (9 + i) ^^^ wdS σ (zcw m i))) := rfl
    have e3 : lostN (casI σ m (σ 0)) (i + 1) = lostN (casI σ m (σ 0)) i + zL (casI σ m (σ 0) 7) i := rfl
    rw [e1, e2, e3, ep]
    generalize popc (rotW (σ 2) (σ (9 + i) ^^^ wdS σ (zcw m i))) = x
    constructor
    · split <;> omega
    · intro h3
      rw [if_neg (by omega), h2 (by omega)]
theorem cas_8 (σ : Nat → Nat) (m : Nat) : casI σ m (σ 0) 8 = m := by unfold casI; rw [if_neg (by omega), zu_eq]
theorem cas_0 (σ : Nat → Nat) (m : Nat) : casI σ m (σ 0) 0 = σ 0 := casI_out _ _ _ (by omega)
/-! fragile bits -/
theorem frb_lost (σ : Nat → Nat) : ∀ i, frbI σ i ≤ (i - lostN σ i) * σ 2
  | 0 => Nat.zero_le _
  | i + 1 => by
    have ih := frb_lost σ i
    have h1 := lostN_le σ i
    have hz := zL_01 (σ 7) i
    have h2 := cnt_le (frbP σ i) (σ 2)
    show frbI σ i + (if zL (σ 7) i = 1 then 0 else cnt (frbP σ i) (σ 2)) ≤ (i + 1 - (lostN σ i + zL (σ 7) i)) * σ 2
    by_cases c : zL (σ 7) i = 1
    · rw [if_pos c, c, show i + 1 - (lostN σ i + 1) = i - lostN σ i by omega]; exact ih
    · rw [if_neg c, show i + 1 - (lostN σ i + zL (σ 7) i) = (i - lostN σ i) + 1 by omega, Nat.succ_mul]; omega
/-! a burst made twice -/
theorem bur_bur (σ : Nat → Nat) (st en n : Nat) : burI (burI σ st en n) st en n = σ := funext fun q => by
  have e2 : burI σ st en n 2 = σ 2 := burI_out _ _ _ _ (by omega)
  have e : burI (burI σ st en n) st en n q = if 9 ≤ q ∧ q < 9 + n then burI σ st en n q ^^^ bmask (burI σ st en n 2) (q - 9) st en else burI σ st en n q := rfl
  rw [e, e2]
  by_cases c : 9 ≤ q ∧ q < 9 + n
  · rw [if_pos c]
    unfold burI
    rw [if_pos c, Nat.xor_assoc, Nat.xor_self, Nat.xor_zero]
  · rw [if_neg c]; exact if_neg c
/-! the history -/
theorem rec_top {h : Nat → Nat → Nat} {hn : Nat} {σ : Nat → Nat} : recH h hn σ (recN hn - 1) = σ := by
  unfold recH recN
  by_cases c : hn = 6
  · rw [if_pos c, if_pos c]; exact if_pos rfl
  · rw [if_neg c, if_neg c]; exact if_pos (by omega)
theorem rec_N {hn : Nat} (h : hn ≤ 6) : recN hn ≤ 6 ∧ 0 < recN hn ∧ (0 < hn → 1 < recN hn) := by
  unfold recN
  split <;> omega
theorem rec_K {h : Nat → Nat → Nat} {hn : Nat} {σ : Nat → Nat} (kσ : zWF σ) (kh : ∀ i, i < hn → zWF (h i)) : ∀ i, i < recN hn → zWF (recH h hn σ i) := fun i hi => by
  unfold recN at hi
  unfold recH
  by_cases c : hn = 6
  · rw [if_pos c] at hi
    rw [if_pos c]
    unfold va_up rotH
    by_cases d : i = 5
    · rw [if_pos d]; exact kσ
    · rw [if_neg d, if_pos (by omega)]; exact kh (i + 1) (by omega)
  · rw [if_neg c] at hi
    rw [if_neg c]
    unfold va_up
    by_cases d : i = hn
    · rw [if_pos d]; exact kσ
    · rw [if_neg d]; exact kh i (by omega)
theorem cV0 (σ : Nat → Nat) (wn hn : Nat) : countV σ wn hn (nI 0).toInt = nI (σ 0) := by rw [show (nI 0).toInt = 0 from by decide]; rfl
theorem cV2 (σ : Nat → Nat) (wn hn : Nat) : countV σ wn hn (nI 2).toInt = nI (σ 0 - σ 1 + 1) := by rw [show (nI 2).toInt = 2 from by decide]; rfl
theorem cV3 (σ : Nat → Nat) (wn hn : Nat) : countV σ wn hn (nI 3).toInt = nI (σ 2) := by rw [show (nI 3).toInt = 3 from by decide]; rfl
theorem cV4 (σ : Nat → Nat) (wn hn : Nat) : countV σ wn hn (nI 4).toInt = nI (ddS σ) := by rw [show (nI 4).toInt = 4 from by decide]; rfl
theorem cV6 (σ : Nat → Nat) (wn hn : Nat) : countV σ wn hn (nI 6).toInt = nI hn := by rw [show (nI 6).toInt = 6 from by decide]; rfl
theorem cV7 (σ : Nat → Nat) (wn hn : Nat) : countV σ wn hn (nI 7).toInt = nI (lostN σ (σ 0)) := by rw [show (nI 7).toInt = 7 from by decide]; rfl
theorem cV8 (σ : Nat → Nat) (wn hn : Nat) : countV σ wn hn (nI 8).toInt = nI (wrN (wdS σ) σ (σ 0)) := by rw [show (nI 8).toInt = 8 from by decide]; rfl
theorem rcv_y {σ : Nat → Nat} {j : Nat} (hj : j < σ 0) (h12 : σ 0 ≤ 12) (hz : zL (σ 7) j = 0) : recvV σ (nI j).toInt = nI (σ (9 + j)) := by
  have e := zt_n (n := j) (by omega)
  unfold recvV
  rw [if_pos (by omega), zToI (by omega), if_neg (by omega)]
theorem rcv_n {σ : Nat → Nat} {j : Nat} (hj : j < σ 0) (h12 : σ 0 ≤ 12) (hz : zL (σ 7) j = 1) : recvV σ (nI j).toInt = -1004 := by
  have e := zt_n (n := j) (by omega)
  unfold recvV
  rw [if_pos (by omega), zToI (by omega), if_pos hz]
theorem cas_wr0 (σ : Nat → Nat) (m : Nat) : wrN (wdS (casI σ m (σ 0))) (casI σ m (σ 0)) (casI σ m (σ 0) 0) ≤ casN σ m (σ 0) ∧ (lostN (casI σ m (σ 0)) (casI σ m (σ 0) 0) = 0 → wrN (wdS (casI σ m (σ 0))) (casI σ m (σ 0)) (casI σ m (σ 0) 0) = casN σ m (σ 0)) := by
  rw [cas_0]
  exact cas_wr σ m (σ 0) (Nat.le_refl _)
theorem bur_bur2 (σ : Nat → Nat) (st en : Nat) : burI (burI σ st en (σ 0)) st en (burI σ st en (σ 0) 0) = σ := by
  rw [show burI σ st en (σ 0) 0 = σ 0 from burI_out _ _ _ _ (by omega)]
  exact bur_bur σ st en (σ 0)
theorem bur_1 {b st n : Nat} (hb : 0 < b) (h2 : st < b * n) : cnt (fun j => !(bmask b j st (st + 1) == 0)) n = 1 := by
  rw [← bur_cnt hb (Nat.le_refl 1) (show st + 1 ≤ b * n by omega), Nat.add_sub_cancel, Nat.sub_self]
theorem bur_ge {b st le n : Nat} (hb : 0 < b) (h1 : 1 ≤ le) (h2 : st + le ≤ b * n) : 1 ≤ cnt (fun j => !(bmask b j st (st + le) == 0)) n := by
  rw [← bur_cnt hb h1 h2]
  exact Nat.le_add_left _ _
