/-! restricting -/
theorem with_hi {c : Nat} (P U : N2) (u : Int32) : ∀ d k0 x (V : N2), c ≤ k0 → k0 + d ≤ 300 → f_X_withdrawFromLowRights_L c P U u d k0 x V = (x, V) := by
  intro d
  induction d with
  | zero => intro k0 x V _ _; rfl
  | succ d ih =>
    intro k0 x V h1 h2
    have e : f_Q_isOpenFor c V (nI k0) u = 0 := by
      unfold f_Q_isOpenFor
      rw [if_pos (has_ge (by omega) h1)]
    rw [f_X_withdrawFromLowRights_L_s, if_pos e]
    exact ih _ _ _ (by omega) (by omega)
theorem rightOf_nI {j : Nat} (h : j < 60) (P : N2) : f_R_rightOf P (nI j) = P 0 j := by
  unfold f_R_rightOf
  rw [if_neg (isPerson_nI h), nI_clamp (by omega)]
theorem personOf_nI {c i : Nat} (hc : c ≤ 300) (hi : i < c) (V : N2) : f_Q_personOf c V (nI i) = V 0 i := by
  unfold f_Q_personOf
  rw [if_neg (has_lt hc hi), nI_clamp (by omega)]
theorem restr_L {c : Nat} (hc : c ≤ 300) (nw : Int32) (n : Nat) (Z P PM U : N2) {j : Nat} (hj : j < 80) (to : Int32) (hP : PM 0 = P 0) (hto : U 2 j = to) : ∀ d k0 x (V : N2), k0 + d = c → (∀ i, ∃ q, q < 60 ∧ V 0 i = nI q) → f_M_restrict_L nw n c Z PM (nI j) to d k0 x U V = ((f_X_withdrawFromLowRights_L c P U (nI j) (300 - k0) k0 x V).1, 0, nw, nI n, nI c, Z, PM, U, (f_X_withdrawFromLowRights_L c P U (nI j) (300 - k0) k0 x V).2) := by
  intro d
  induction d with
  | zero =>
    intro k0 x V h _
    rw [with_hi P U (nI j) (300 - k0) k0 x V (by omega) (by omega)]
    rfl
  | succ d ih =>
    intro k0 x V h hV
    obtain ⟨q, hq, eq⟩ := hV k0
    have e3 : f_H_restrictionOf U (nI j) = to := by
      unfold f_H_restrictionOf
      rw [if_neg (isUnit_nI hj), nI_clamp (by omega), hto]
    rw [show 300 - k0 = (300 - (k0 + 1)) + 1 by omega, f_M_restrict_L_s, f_X_withdrawFromLowRights_L_s, openFor hc (by omega), personOf_nI hc (by omega), setState_nI hc (by omega), ih (k0 + 1) x V (by omega) hV, ih (k0 + 1) (x + 1) (up2 V 2 k0 4) (by omega) (fun i => by rw [up2_ne _ _ _ _ _ _ (by decide)]; exact hV i)]
    unfold f_X_isRightTooLow
    rw [e3, eq, rightOf_nI hq, nI_clamp (by omega), hP]
    rcases Classical.em (V 1 k0 = nI j) with q1 | q1
    · rw [if_pos q1, if_pos q1]
      rcases Classical.em (V 2 k0 = 0) with q2 | q2
      · rw [if_pos q2, if_pos q2, if_neg (show ¬ (1 : Int32) = 0 by decide)]
        rcases Classical.em (P 0 q < to) with q3 | q3
        · rw [if_pos q3, if_neg (show ¬ to ≤ P 0 q from Int32.not_le.mpr q3), if_neg (show ¬ (1 : Int32) = 0 by decide)]
        · rw [if_neg q3, if_pos (show to ≤ P 0 q from Int32.not_lt.mp q3), if_pos rfl]
      · rw [if_neg q2, if_neg q2, if_pos rfl]
    · rw [if_neg q1, if_neg q1, if_pos rfl]
theorem with_L {c : Nat} (hc : c ≤ 300) (P U : N2) (u : Int32) : ∀ d k0 x (V : N2), k0 + d = 300 → (∀ i, (f_X_withdrawFromLowRights_L c P U u d k0 x V).2 0 i = V 0 i ∧ (f_X_withdrawFromLowRights_L c P U u d k0 x V).2 1 i = V 1 i) ∧ ∀ i, (f_X_withdrawFromLowRights_L c P U u d k0 x V).2 2 i = V 2 i ∨ (V 2 i = 0 ∧ (f_X_withdrawFromLowRights_L c P U u d k0 x V).2 2 i = 4) := by
  intro d
  induction d with
  | zero => intro k0 x V _; exact ⟨fun i => ⟨rfl, rfl⟩, fun i => Or.inl rfl⟩
  | succ d ih =>
    intro k0 x V h
    rw [f_X_withdrawFromLowRights_L_s]
    split
    · exact ih _ _ _ (by omega)
    · rename_i h1
      split
      · exact ih _ _ _ (by omega)
      · have hk : k0 < c := by
          rcases Nat.lt_or_ge k0 c with q | q
          · exact q
          · exact absurd (by unfold f_Q_isOpenFor; rw [if_pos (has_ge (by omega) q)]) h1
        rw [openFor hc hk] at h1
        have h0 : V 2 k0 = 0 := by
          rcases Classical.em (V 1 k0 = u) with q | q
          · rw [if_pos q] at h1
            rcases Classical.em (V 2 k0 = 0) with q2 | q2
            · exact q2
            · rw [if_neg q2] at h1
              exact absurd rfl h1
          · rw [if_neg q] at h1
            exact absurd rfl h1
        rw [setState_nI hc hk]
        obtain ⟨b1, b2⟩ := ih (k0 + 1) (x + 1) (up2 V 2 k0 4) (by omega)
        refine ⟨fun i => ⟨(b1 i).1.trans (up2_ne _ _ _ _ _ _ (by decide)), (b1 i).2.trans (up2_ne _ _ _ _ _ _ (by decide))⟩, fun i => ?_⟩
        by_cases e : i = k0
        · subst e
          rcases b2 i with b | b
          · rw [up2_at] at b
            exact Or.inr ⟨h0, b⟩
          · rw [up2_at] at b
            exact absurd b.1 (by decide)
        · have := b2 i
          rw [up2_ni _ _ _ _ _ _ e] at this
          exact this
/-! asking -/
theorem ask1_L (nw : Int32) (n c : Nat) (Z P U V : N2) (pr u t : Int32) : ∀ d k0, f_M_ask_L nw n c Z P U V pr u t d k0 1 = ((-3), 0, nw, nI n, nI c, Z, P, U, V) := by
  intro d
  induction d with
  | zero => intro k0; rw [f_M_ask_L_0, if_neg (by decide)]
  | succ d ih => intro k0; rw [f_M_ask_L_s, if_neg (by decide), ih]
theorem ask0_L {c : Nat} (hc : c ≤ 300) (nw : Int32) (n : Nat) (Z P U V : N2) (pr u t : Int32) : ∀ d k0, k0 + d = c → f_M_ask_L nw n c Z P U V pr u t d k0 0 = (if f_Q_isRunning_L c V pr u d k0 = 0 then f_M_ask_L nw n c Z P U V pr u t 0 0 0 else ((-3), 0, nw, nI n, nI c, Z, P, U, V)) := by
  intro d
  induction d with
  | zero => intro k0 _; rw [f_Q_isRunning_L_0, if_pos rfl]; rfl
  | succ d ih =>
    intro k0 h
    rw [f_M_ask_L_s, f_Q_isRunning_L_s, runBy hc (by omega), if_pos rfl, ih _ (by omega), ask1_L]
    rcases Classical.em (V 0 k0 = pr) with q1 | q1
    · rw [if_pos q1, if_pos q1]
      rcases Classical.em (f_M_lives V (nI k0) = 0) with q2 | q2
      · rw [if_pos q2, if_pos q2, if_pos rfl]
        split <;> rfl
      · rw [if_neg q2, if_neg q2, if_neg (show ¬ (1 : Int32) = 0 by decide)]
        rcases Classical.em (V 1 k0 = u) with q3 | q3
        · rw [if_pos q3, if_pos q3, if_neg (show ¬ (1 : Int32) = 0 by decide)]
        · rw [if_neg q3, if_neg q3]
    · rw [if_neg q1, if_neg q1, if_pos rfl]
/-! pigeons -/
theorem pigeon : ∀ (m n : Nat) (f : Nat → Nat), (∀ i, i < n → f i < m) → (∀ i j, i < j → j < n → f i ≠ f j) → n ≤ m := by
  intro m
  induction m with
  | zero =>
    intro n f h1 _
    rcases Nat.eq_zero_or_pos n with q | q
    · omega
    · exact absurd (h1 0 q) (Nat.not_lt_zero _)
  | succ m ih =>
    intro n f h1 h2
    cases n with
    | zero => omega
    | succ n =>
      have := ih n (fun i => if f i = m then f n else f i) (fun i hi => by
        have a1 := h1 i (by omega)
        have a2 := h1 n (by omega)
        have a3 := h2 i n (by omega) (by omega)
        show (if f i = m then f n else f i) < m
        split
        · omega
        · omega) (fun i j hij hj => by
        have a3 := h2 i n (by omega) (by omega)
        have a4 := h2 j n (by omega) (by omega)
        have a5 := h2 i j hij (by omega)
        show (if f i = m then f n else f i) ≠ (if f j = m then f n else f j)
        split
        · split
          · omega
          · omega
        · split
          · omega
          · exact a5)
      omega
/-! counting: requests that are out, units that are with somebody -/
def cnt (p : Nat → Bool) : Nat → Nat
  | 0 => 0
  | n + 1 => cnt p n + (if p n then 1 else 0)
theorem cnt_le (p : Nat → Bool) : ∀ n, cnt p n ≤ n
  | 0 => Nat.le_refl 0
  | n + 1 => by
    have := cnt_le p n
    show cnt p n + (if p n then 1 else 0) ≤ n + 1
    split <;> omega
theorem cnt_congr {p q : Nat → Bool} : ∀ n, (∀ i, i < n → p i = q i) → cnt p n = cnt q n
  | 0, _ => rfl
  | n + 1, h => by
    show cnt p n + (if p n then 1 else 0) = cnt q n + (if q n then 1 else 0)
    rw [cnt_congr n (fun i hi => h i (by omega)), h n (by omega)]
theorem cnt_zero {p : Nat → Bool} : ∀ n, (∀ i, i < n → p i = false) → cnt p n = 0
  | 0, _ => rfl
  | n + 1, h => by
    show cnt p n + (if p n then 1 else 0) = 0
    rw [cnt_zero n (fun i hi => h i (by omega)), h n (by omega)]
    rfl
theorem cnt_one {p : Nat → Bool} {k : Nat} (hk : p k = true) : ∀ n, k < n → (∀ i, i < n → i ≠ k → p i = false) → cnt p n = 1
  | 0, h, _ => absurd h (Nat.not_lt_zero _)
  | n + 1, h, hu => by
    show cnt p n + (if p n then 1 else 0) = 1
    by_cases e : n = k
    · subst e
      rw [cnt_zero n (fun i hi => hu i (by omega) (by omega)), hk]
      rfl
    · rw [cnt_one hk n (by omega) (fun i hi => hu i (by omega)), hu n (by omega) e]
      rfl
/-- two ways of adding up a table of yes and no -/
theorem cnt_swap (R : Nat → Nat → Bool) (p q : Nat → Bool) : ∀ n m, (∀ i, i < n → cnt (R i) m = if p i then 1 else 0) → (∀ j, j < m → cnt (fun i => R i j) n = if q j then 1 else 0) → cnt p n = cnt q m := by
  have key : ∀ n m, (∀ (g : Nat → Nat), True) → ∀ S : Nat → Nat → Bool, (List.range n).foldl (fun a i => a + cnt (S i) m) 0 = (List.range m).foldl (fun a j => a + cnt (fun i => S i j) n) 0 := by
    intro n m _ S
    induction n with
    | zero =>
      have : ∀ l : List Nat, l.foldl (fun a j => a + cnt (fun i => S i j) 0) 0 = 0 := by
        intro l
        have g : ∀ (l : List Nat) (a : Nat), l.foldl (fun a j => a + cnt (fun i => S i j) 0) a = a := by
          intro l
          induction l with
          | nil => intro a; rfl
          | cons x l ih => intro a; exact ih (a + 0)
        exact g l 0
      rw [this]
      rfl
    | succ n ih =>
      rw [List.range_succ, List.foldl_append, ih]
      show (List.range m).foldl (fun a j => a + cnt (fun i => S i j) n) 0 + cnt (S n) m = _
      have g : ∀ m, (List.range m).foldl (fun a j => a + cnt (fun i => S i j) n) 0 + cnt (S n) m = (List.range m).foldl (fun a j => a + cnt (fun i => S i j) (n + 1)) 0 := by
        intro m
        induction m with
        | zero => rfl
        | succ m ihm =>
          rw [List.range_succ, List.foldl_append, List.foldl_append, ← ihm]
          show (List.range m).foldl (fun a j => a + cnt (fun i => S i j) n) 0 + cnt (fun i => S i m) n + (cnt (S n) m + (if S n m then 1 else 0)) = (List.range m).foldl (fun a j => a + cnt (fun i => S i j) n) 0 + cnt (S n) m + (cnt (fun i => S i m) n + (if S n m then 1 else 0))
          omega
      exact g m
  intro n m h1 h2
  have e := key n m (fun _ => trivial) R
  have s1 : ∀ (f : Nat → Nat) (r : Nat → Bool) (n : Nat), (∀ i, i < n → f i = if r i then 1 else 0) → (List.range n).foldl (fun a i => a + f i) 0 = cnt r n := by
    intro f r n
    induction n with
    | zero => intro _; rfl
    | succ n ih =>
      intro h
      rw [List.range_succ, List.foldl_append, ih (fun i hi => h i (by omega))]
      show cnt r n + f n = cnt r n + (if r n then 1 else 0)
      rw [h n (by omega)]
  rw [s1 (fun i => cnt (R i) m) p n h1, s1 (fun j => cnt (fun i => R i j) n) q m h2] at e
  exact e
