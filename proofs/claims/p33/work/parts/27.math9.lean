/-! insertion into the order -/
def insA (tr : Nat → Nat) (j : Nat) : Nat → (Nat → Nat) → Nat → Nat
  | 0, o => va_up o 0 j
  | a + 1, o => if tr j < tr (o a) then insA tr j a (va_up o (a + 1) (o a)) else va_up o (a + 1) j
def insI (tr o0 : Nat → Nat) : Nat → Nat → Nat
  | 0 => o0
  | j + 1 => insA tr j j (insI tr o0 j)
theorem insA_at {tr : Nat → Nat} {j q : Nat} : ∀ (a : Nat) (o : Nat → Nat), q ≤ a → (∀ p, p < q → tr (o p) ≤ tr j) → (∀ p, q ≤ p → p < a → tr j < tr (o p)) → ∀ p, insA tr j a o p = if p < q then o p else if p = q then j else if p ≤ a then o (p - 1) else o p
  | 0, o, hq, _, _, p => by
    have : q = 0 := by omega
    subst this
    show va_up o 0 j p = _
    unfold va_up
    by_cases c : p = 0
    · rw [if_pos c, if_neg (by omega), if_pos c]
    · rw [if_neg c, if_neg (by omega), if_neg c, if_neg (by omega)]
  | a + 1, o, hq, h1, h2, p => by
    show (if tr j < tr (o a) then insA tr j a (va_up o (a + 1) (o a)) else va_up o (a + 1) j) p = _
    by_cases c : tr j < tr (o a)
    · rw [if_pos c]
      have hqa : q ≤ a := by
        by_cases d : q ≤ a
        · exact d
        · have := h1 a (by omega); omega
      have e : ∀ x, x ≠ a + 1 → va_up o (a + 1) (o a) x = o x := fun x hx => if_neg hx
      rw [insA_at a (va_up o (a + 1) (o a)) hqa (fun x hx => by rw [e x (by omega)]; exact h1 x hx) (fun x h3 h4 => by rw [e x (by omega)]; exact h2 x h3 (by omega)) p]
      by_cases c1 : p < q
      · rw [if_pos c1, if_pos c1, e p (by omega)]
      · rw [if_neg c1, if_neg c1]
        by_cases c2 : p = q
        · rw [if_pos c2, if_pos c2]
        · rw [if_neg c2, if_neg c2]
          by_cases c3 : p ≤ a
          · rw [if_pos c3, if_pos (by omega), e (p - 1) (by omega)]
          · rw [if_neg c3]
            by_cases c4 : p = a + 1
            · rw [c4, if_pos (Nat.le_refl _)]
              show (if a + 1 = a + 1 then o a else _) = o (a + 1 - 1)
              rw [if_pos rfl]; rfl
            · rw [if_neg (by omega), e p c4]
    · rw [if_neg c]
      have hqa : q = a + 1 := by
        by_cases d : q ≤ a
        · have := h2 a d (by omega); omega
        · omega
      unfold va_up
      by_cases c1 : p = a + 1
      · rw [if_pos c1, if_neg (by omega), if_pos (by omega)]
      · rw [if_neg c1]
        by_cases c2 : p < q
        · rw [if_pos c2]
        · rw [if_neg c2, if_neg (by omega), if_neg (by omega)]
theorem bef_succ (tr : Nat → Nat) (N x : Nat) : bef tr (N + 1) x = bef tr N x + b01 (befP tr x N) := rfl
/-- the blocks so far stand in their order -/
theorem insI_ok (tr o0 : Nat → Nat) : ∀ n p, p < n → insI tr o0 n p < n ∧ bef tr n (insI tr o0 n p) = p
  | 0, p, h => absurd h (Nat.not_lt_zero p)
  | j + 1, p, hp => by
    have ih := insI_ok tr o0 j
    have e0 : insI tr o0 (j + 1) = insA tr j j (insI tr o0 j) := rfl
    generalize hO : insI tr o0 j = o at ih e0
    have hq : bef tr (j + 1) j ≤ j := by
      rw [bef_succ, befP_self]
      exact cnt_le _ j
    have hqe : bef tr (j + 1) j = bef tr j j := by rw [bef_succ, befP_self]; rfl
    -- at place x below j stands a block that is not greater just if x is below the place of j
    have h1 : ∀ x, x < bef tr (j + 1) j → tr (o x) ≤ tr j := fun x hx => by
      obtain ⟨a1, a2⟩ := ih x (by omega)
      by_cases c : tr (o x) ≤ tr j
      · exact c
      · have : bef tr j j ≤ bef tr j (o x) := cnt_mono (fun i hi hb => by
          have hb := of_decide_eq_true hb
          exact decide_eq_true (by omega))
        omega
    have h2 : ∀ x, bef tr (j + 1) j ≤ x → x < j → tr j < tr (o x) := fun x hx hj => by
      obtain ⟨a1, a2⟩ := ih x hj
      by_cases c : tr j < tr (o x)
      · exact c
      · have : bef tr j (o x) < bef tr j j := cnt_less (fun i hi hb => by
          have hb := of_decide_eq_true hb
          exact decide_eq_true (by omega)) a1 (befP_self tr (o x)) (decide_eq_true (by omega))
        omega
    rw [e0, insA_at j o hq h1 h2 p]
    by_cases c1 : p < bef tr (j + 1) j
    · rw [if_pos c1]
      obtain ⟨a1, a2⟩ := ih p (by omega)
      have h3 := h1 p c1
      refine ⟨by omega, ?_⟩
      rw [bef_succ, a2, show befP tr (o p) j = false from decide_eq_false (by omega)]; rfl
    · rw [if_neg c1]
      by_cases c2 : p = bef tr (j + 1) j
      · rw [if_pos c2]
        exact ⟨by omega, c2.symm⟩
      · rw [if_neg c2, if_pos (by omega)]
        obtain ⟨a1, a2⟩ := ih (p - 1) (by omega)
        have h3 := h2 (p - 1) (by omega) (by omega)
        refine ⟨by omega, ?_⟩
        rw [bef_succ, a2, show befP tr (o (p - 1)) j = true from decide_eq_true (by omega)]
        show p - 1 + 1 = p
        omega
/-- sums of whole numbers -/
def smI (f : Nat → Int) : Nat → Int
  | 0 => 0
  | n + 1 => smI f n + f n
theorem smI_cong {f g : Nat → Int} : ∀ {n : Nat}, (∀ j, j < n → f j = g j) → smI f n = smI g n
  | 0, _ => rfl
  | n + 1, h => by
    show smI f n + f n = smI g n + g n
    rw [smI_cong (fun j hj => h j (by omega)), h n (by omega)]
theorem smI_add (f g : Nat → Int) : ∀ n, smI (fun j => f j + g j) n = smI f n + smI g n
  | 0 => rfl
  | n + 1 => by
    show smI (fun j => f j + g j) n + (f n + g n) = (smI f n + f n) + (smI g n + g n)
    rw [smI_add f g n]; omega
theorem smI_zero {f : Nat → Int} : ∀ {n : Nat}, (∀ j, j < n → f j = 0) → smI f n = 0
  | 0, _ => rfl
  | n + 1, h => by
    show smI f n + f n = 0
    rw [smI_zero (fun j hj => h j (by omega)), h n (by omega)]; rfl
theorem smI_one {f : Nat → Int} {a : Nat} : ∀ {n : Nat}, a < n → (∀ j, j < n → j ≠ a → f j = 0) → smI f n = f a
  | 0, h, _ => absurd h (Nat.not_lt_zero a)
  | n + 1, h, hz => by
    show smI f n + f n = f a
    by_cases c : a = n
    · subst c
      rw [smI_zero (fun j hj => hz j (by omega) (by omega))]; omega
    · rw [smI_one (by omega) (fun j hj h2 => hz j (by omega) h2), hz n (by omega) (by omega)]; omega
theorem smI_le {f g : Nat → Int} : ∀ {n : Nat}, (∀ j, j < n → f j ≤ g j) → smI f n ≤ smI g n
  | 0, _ => Int.le_refl 0
  | n + 1, h => by
    have h1 := smI_le (f := f) (g := g) (n := n) (fun j hj => h j (by omega))
    have h2 := h n (by omega)
    show smI f n + f n ≤ smI g n + g n
    omega
/-- the sum over the blocks that stand at place s or behind it -/
def smT (f : Nat → Int) (pl : Nat → Nat) (n s : Nat) : Int := smI (fun j => if s ≤ pl j then f j else 0) n
theorem smT_step {f : Nat → Int} {pl r : Nat → Nat} {n s : Nat} (inj : ∀ a b, a < n → b < n → pl a = pl b → a = b) (h1 : r s < n) (h2 : pl (r s) = s) : smT f pl n s = smT f pl n (s + 1) + f (r s) := by
  have e : smI (fun j => if pl j = s then f j else 0) n = f (r s) := by
    rw [smI_one h1 (fun j hj hne => if_neg (fun z => hne (inj j (r s) hj h1 (by rw [z, h2]))))]
    exact if_pos h2
  unfold smT
  rw [← e, ← smI_add]
  apply smI_cong
  intro j hj
  by_cases c : s + 1 ≤ pl j
  · rw [if_pos (by omega), if_pos c, if_neg (by omega)]; omega
  · by_cases d : pl j = s
    · rw [if_pos (by omega), if_neg c, if_pos d]; omega
    · rw [if_neg (by omega), if_neg c, if_neg d]; rfl
theorem smT_0 (f : Nat → Int) (pl : Nat → Nat) (n : Nat) : smT f pl n 0 = smI f n := smI_cong (fun j hj => if_pos (Nat.zero_le _))
theorem smT_n {f : Nat → Int} {pl : Nat → Nat} {n : Nat} (h : ∀ j, j < n → pl j < n) {s : Nat} (hs : n ≤ s) : smT f pl n s = 0 := smI_zero (fun j hj => if_neg (by have := h j hj; omega))
