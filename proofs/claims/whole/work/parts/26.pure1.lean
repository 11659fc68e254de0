/-! the class's functions and the model's, over the same numbers -/
abbrev N2 : Type := Nat → Nat → Int32
theorem i32_gt2 (x : Int32) : 2 < x ↔ 3 ≤ x := by
  rw [Int32.lt_iff_toInt_lt, i32_ti]
  have h2 : (2 : Int32).toInt = 2 := by decide
  have h3 : (3 : Int32).toInt = 3 := by decide
  omega
theorem i32_gt1 (x : Int32) : 1 < x ↔ 2 ≤ x := by
  rw [Int32.lt_iff_toInt_lt, i32_ti]
  have h2 : (2 : Int32).toInt = 2 := by decide
  have h3 : (1 : Int32).toInt = 1 := by decide
  omega
theorem i32_a0 (x : Int32) : x + 0 = x := Int32.add_zero x
theorem i32_as (x : Int32) : x + 1 - 1 = x := by
  rw [Int32.add_sub_cancel]
theorem nI_ne_m1 {j : Nat} (h : j < 2 ^ 31) : ¬ nI j = -1 := by
  intro q
  have h1 := congrArg Int32.toInt q
  rw [nI_toInt h] at h1
  have h2 : (-1 : Int32).toInt = -1 := by decide
  omega
theorem up2_eq (Z : N2) (j i : Nat) (v : Int32) (b y : Nat) : up2 Z j i v b y = if b = j ∧ y = i then v else Z b y := by
  show (match Nat.beq b j with | true => upd (Z b) i v | false => Z b) y = _
  cases h : Nat.beq b j with
  | true =>
    have h1 := Nat.eq_of_beq_eq_true h
    show upd (Z b) i v y = _
    simp only [upd, h1, true_and]
  | false =>
    have h1 : b ≠ j := fun q => by subst q; rw [Nat.beq_refl] at h; cases h
    rw [if_neg (fun q => h1 q.1)]
theorem up2_same (Z : N2) (j i : Nat) : up2 Z j i (Z j i) = Z := by
  funext b y
  rw [up2_eq]
  split
  · rename_i h
    rw [h.1, h.2]
  · rfl
theorem up2_at (Z : N2) (j i : Nat) (v : Int32) : up2 Z j i v j i = v := by rw [up2_eq, if_pos ⟨rfl, rfl⟩]
theorem up2_ne (Z : N2) (j i : Nat) (v : Int32) (b y : Nat) (h : b ≠ j) : up2 Z j i v b y = Z b y := by rw [up2_eq, if_neg (fun q => h q.1)]
theorem up2_ni (Z : N2) (j i : Nat) (v : Int32) (b y : Nat) (h : y ≠ i) : up2 Z j i v b y = Z b y := by rw [up2_eq, if_neg (fun q => h q.2)]
theorem isPerson_nI {j : Nat} (h : j < 60) : ¬ f_isPerson (nI j) = 0 := by
  intro q
  unfold f_isPerson f_isWithin at q
  rw [if_neg (nI_pos (by omega)), if_neg] at q
  · exact absurd q (by decide)
  · exact nI_nlt (a := 59) (b := j) (by omega) (by omega) |> fun h2 => by
      have h3 : (59 : Int32) = nI 59 := by decide
      rw [h3]; exact h2
theorem isUnit_nI {j : Nat} (h : j < 80) : ¬ f_isUnit (nI j) = 0 := by
  intro q
  unfold f_isUnit f_isWithin at q
  rw [if_neg (nI_pos (by omega)), if_neg] at q
  · exact absurd q (by decide)
  · have h3 : (79 : Int32) = nI 79 := by decide
    rw [h3]
    exact nI_nlt (by omega) (by omega)
theorem person_nI {x : Int32} (h : ¬ f_isPerson x = 0) : ∃ j, j < 60 ∧ x = nI j := vp_in_of (in_person h) (by decide)
theorem unit_nI {x : Int32} (h : ¬ f_isUnit x = 0) : ∃ j, j < 80 ∧ x = nI j := vp_in_of (in_unit h) (by decide)
theorem has_lt {c i : Nat} (hc : c ≤ 300) (h : i < c) : ¬ f_Q_has c (nI i) = 0 := by
  intro q
  unfold f_Q_has f_isWithin at q
  rw [if_neg (nI_pos (by omega)), nI_m1 (by omega), if_neg (nI_nlt (by omega) (by omega))] at q
  exact absurd q (by decide)
theorem has_ge {c i : Nat} (hi : i < 2 ^ 30) (h : c ≤ i) : f_Q_has c (nI i) = 0 := by
  rcases Classical.em (f_Q_has c (nI i) = 0) with q | q
  · exact q
  · obtain ⟨j, hj, e⟩ := pre1_in (n := c) (by omega) q
    have := (nI_eq (by omega) (by omega)).mp e
    omega
theorem has_nI {c : Nat} {x : Int32} (hc : c ≤ 300) (h : ¬ f_Q_has c x = 0) : ∃ j, j < c ∧ x = nI j := pre1_in (by omega) h
theorem seat_L (Z : N2) (x : Int32) : ∀ d k0, f_S_firstSeatWith_L Z x d k0 = f_M_seatOf_L Z x d k0 := by
  intro d
  induction d with
  | zero => intro k0; rfl
  | succ d ih => intro k0; rw [f_S_firstSeatWith_L_s, f_M_seatOf_L_s, ih]
theorem seat_eq (k : Nat) (Z : N2) (x : Int32) : f_S_firstSeatWith k Z x = f_M_seatOf k Z x := seat_L Z x k 0
theorem row_L (Z : N2) (x : Int32) : ∀ d k0, f_S_placeInRow_L Z x d k0 = f_M_waitOf_L Z x d k0 := by
  intro d
  induction d with
  | zero => intro k0; rfl
  | succ d ih => intro k0; rw [f_S_placeInRow_L_s, f_M_waitOf_L_s, ih]
theorem row_eq (n : Nat) (Z : N2) (x : Int32) : f_S_placeInRow n Z x = f_M_waitOf n Z x := row_L Z x n 0
theorem runBy {c k0 : Nat} (hc : c ≤ 300) (h : k0 < c) (V : N2) (x : Int32) : f_Q_isRunningBy c V (nI k0) x = if V 0 k0 = x then (if f_M_lives V (nI k0) = 0 then 0 else 1) else 0 := by
  unfold f_Q_isRunningBy f_M_lives
  rw [if_neg (has_lt hc h), nI_clamp (by omega)]
  split
  · rcases Classical.em (3 ≤ V 2 k0) with q | q
    · rw [if_pos ((i32_gt2 _).mpr q), if_pos q, if_pos rfl]
    · rw [if_neg (fun z => q ((i32_gt2 _).mp z)), if_neg q, if_neg (by decide)]
  · rfl
theorem openFor {c k0 : Nat} (hc : c ≤ 300) (h : k0 < c) (V : N2) (x : Int32) : f_Q_isOpenFor c V (nI k0) x = if V 1 k0 = x then (if V 2 k0 = 0 then 1 else 0) else 0 := by
  unfold f_Q_isOpenFor
  rw [if_neg (has_lt hc h), nI_clamp (by omega)]
theorem living_L {c : Nat} (hc : c ≤ 300) (V : N2) (x : Int32) : ∀ d k0 y, k0 + d = c → f_Q_countRunning_L c V x d k0 y = f_M_living_L V x d k0 y := by
  intro d
  induction d with
  | zero => intro k0 y _; rfl
  | succ d ih =>
    intro k0 y h
    rw [f_Q_countRunning_L_s, f_M_living_L_s, runBy hc (by omega), i32_a0, ih _ _ (by omega), ih _ _ (by omega)]
    split
    · split
      · rw [if_pos rfl]
      · rw [if_neg (by decide)]
    · rw [if_pos rfl]
theorem living_eq {c : Nat} (hc : c ≤ 300) (V : N2) (x : Int32) : f_Q_countRunning c V x = f_M_living c V x := living_L hc V x c 0 0 (by omega)
theorem ahead_L {c : Nat} (hc : c ≤ 300) (V : N2) (x : Int32) : ∀ d k0, k0 + d = c → f_Q_openOf_L c V x 0 d k0 0 = f_M_ahead_L V x d k0 := by
  intro d
  induction d with
  | zero => intro k0 _; rfl
  | succ d ih =>
    intro k0 h
    rw [f_Q_openOf_L_s, f_M_ahead_L_s, openFor hc (by omega), ih _ (by omega), if_pos rfl]
    split
    · split
      · rw [if_neg (by decide)]
      · rw [if_pos rfl]
    · rw [if_pos rfl]
theorem ahead_eq {c : Nat} (hc : c ≤ 300) (V : N2) (x : Int32) : f_Q_openOf c V x 0 = f_M_ahead c V x := ahead_L hc V x c 0 (by omega)
theorem countOpen_L {c : Nat} (hc : c ≤ 300) (nw : Int32) (n : Nat) (Z P U V : N2) (x w : Int32) : ∀ d k0 y, k0 + d = c → f_M_unit_L nw n c Z P U V x w d k0 y = (f_Q_countOpen_L c V x d k0 y, 0, nw, nI n, nI c, Z, P, U, V) := by
  intro d
  induction d with
  | zero => intro k0 y _; rfl
  | succ d ih =>
    intro k0 y h
    rw [f_M_unit_L_s, f_Q_countOpen_L_s, openFor hc (by omega), i32_a0, ih _ _ (by omega), ih _ _ (by omega)]
    split
    · split
      · rw [if_neg (by decide)]
      · rw [if_pos rfl]
    · rw [if_pos rfl]
theorem waits_L {c : Nat} (hc : c ≤ 300) (nw : Int32) (n : Nat) (Z P U V : N2) (x i : Int32) : ∀ d k0 y, k0 + d = c → f_M_waits_L nw n c Z P U V x i d k0 (i - y) = (if f_Q_openOf_L c V x i d k0 y = -1 then (0, 1, nw, nI n, nI c, Z, P, U, V) else (f_Q_openOf_L c V x i d k0 y, 0, nw, nI n, nI c, Z, P, U, V)) := by
  intro d
  induction d with
  | zero => intro k0 y _; rw [f_Q_openOf_L_0, if_pos rfl]; rfl
  | succ d ih =>
    intro k0 y h
    have e1 : i - y + -1 = i - (y + 1) := by
      rw [Int32.sub_eq_add_neg, Int32.sub_eq_add_neg i (y + 1), Int32.neg_add, Int32.sub_eq_add_neg, Int32.add_assoc]
    have e2 : (i - y = 0) ↔ y = i := by
      constructor
      · intro q
        have h1 : i - y + y = 0 + y := by rw [q]
        rw [Int32.sub_add_cancel, Int32.zero_add] at h1
        exact h1.symm
      · intro q
        rw [q, Int32.sub_self]
    rw [f_M_waits_L_s, f_Q_openOf_L_s, openFor hc (by omega), e1, ih _ _ (by omega), ih _ _ (by omega)]
    rcases Classical.em (V 1 k0 = x) with q1 | q1
    · rw [if_pos q1, if_pos q1]
      rcases Classical.em (V 2 k0 = 0) with q2 | q2
      · rw [if_pos q2, if_pos q2, if_neg (show ¬ (1 : Int32) = 0 by decide)]
        rcases Classical.em (y = i) with q3 | q3
        · rw [if_pos (e2.mpr q3), if_pos q3, if_neg (nI_ne_m1 (by omega))]
        · rw [if_neg (fun z => q3 (e2.mp z)), if_neg q3]
      · rw [if_neg q2, if_neg q2, if_pos rfl]
    · rw [if_neg q1, if_neg q1, if_pos rfl]
