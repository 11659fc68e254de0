/-! what holds between the two states, and of them -/
def RS (k n : Nat) (Z : N2) : Prop := (∀ s, k ≤ s → s < 20 → Z 0 s = -1) ∧ (∀ i, i < n → ∃ j, j < 60 ∧ Z 1 i = nI j) ∧ (∀ i j, i < j → j < n → Z 1 i ≠ Z 1 j) ∧ ∀ i s, i < n → s < k → Z 1 i ≠ Z 0 s
def RQ (c : Nat) (V : N2) : Prop := (∀ i, ∃ j, j < 60 ∧ V 0 i = nI j) ∧ ∀ i, i < c → ∃ j, j < 5 ∧ V 2 i = nI j
def RU (c : Nat) (U V : N2) : Prop := (∀ u, u < 80 → (U 0 u = 0 ∧ U 3 u = -1) ∨ U 0 u = 3 ∨ ∃ i, i < c ∧ U 3 u = nI i ∧ V 1 i = nI u ∧ ((U 0 u = 1 ∧ V 2 i = 1) ∨ (U 0 u = 2 ∧ V 2 i = 2))) ∧ (∀ i, i < c → V 2 i = 2 → ∃ u, u < 80 ∧ V 1 i = nI u ∧ U 0 u = 2 ∧ U 3 u = nI i) ∧ ∀ u, u < 80 → ∃ j, j < 4 ∧ U 1 u = nI j
def RP (P PM : N2) : Prop := PM 0 = P 0 ∧ PM 1 = P 1 ∧ PM 2 = P 2 ∧ PM 4 = P 4 ∧ (∀ p, p < 60 → PM 3 p = P 3 p ∨ (PM 3 p = -1 ∧ P 4 p = 0)) ∧ ∀ p, p < 60 → (∃ j, j ≤ 500 ∧ P 2 p = nI j) ∧ ∃ j, j ≤ 500 ∧ P 4 p = nI j
def Rel (nw : Int32) (k n c : Nat) (Z P U V PM : N2) : Prop := (k ≤ 20 ∧ n ≤ 60 ∧ c ≤ 300 ∧ 0 ≤ nw) ∧ RS k n Z ∧ RQ c V ∧ RU c U V ∧ RP P PM
abbrev XT : Type := Int32 × Int32 × Int32 × Int32 × (N2) × (N2) × (N2) × (N2)
abbrev YT : Type := Int32 × Int32 × Int32 × Int32 × Int32 × (N2) × (N2) × (N2) × (N2)
def Ok (k : Nat) (X : XT) (Y : YT) : Prop := ∃ (r nw th : Int32) (n c : Nat) (Z P U V PM : N2), X = (r, nw, nI n, nI c, Z, P, U, V) ∧ Y = (r, th, nw, nI n, nI c, Z, PM, U, V) ∧ Rel nw k n c Z P U V PM
theorem Ok.mk {k : Nat} {r nw th : Int32} {n c : Nat} {Z P U V PM : N2} (h : Rel nw k n c Z P U V PM) : Ok k (r, nw, nI n, nI c, Z, P, U, V) (r, th, nw, nI n, nI c, Z, PM, U, V) := ⟨r, nw, th, n, c, Z, P, U, V, PM, rfl, rfl, h⟩
theorem seat_spec (Z : N2) (x : Int32) : ∀ d k0, (f_M_seatOf_L Z x d k0 = -1 ∧ ∀ s, k0 ≤ s → s < k0 + d → Z 0 s ≠ x) ∨ ∃ j, k0 ≤ j ∧ j < k0 + d ∧ f_M_seatOf_L Z x d k0 = nI j ∧ Z 0 j = x := by
  intro d
  induction d with
  | zero => intro k0; exact Or.inl ⟨rfl, fun s h1 h2 => by omega⟩
  | succ d ih =>
    intro k0
    rw [f_M_seatOf_L_s]
    split
    · rename_i q
      exact Or.inr ⟨k0, by omega, by omega, rfl, q⟩
    · rename_i q
      rcases ih (k0 + 1) with ⟨h1, h2⟩ | ⟨j, h1, h2, h3, h4⟩
      · refine Or.inl ⟨h1, fun s a1 a2 => ?_⟩
        by_cases e : s = k0
        · subst e; exact q
        · exact h2 s (by omega) (by omega)
      · exact Or.inr ⟨j, by omega, by omega, h3, h4⟩
theorem seat_cases (k : Nat) (Z : N2) (x : Int32) : (f_M_seatOf k Z x = -1 ∧ ∀ s, s < k → Z 0 s ≠ x) ∨ ∃ j, j < k ∧ f_M_seatOf k Z x = nI j ∧ Z 0 j = x := by
  rcases seat_spec Z x k 0 with ⟨h1, h2⟩ | ⟨j, h1, h2, h3, h4⟩
  · exact Or.inl ⟨h1, fun s hs => h2 s (by omega) (by omega)⟩
  · exact Or.inr ⟨j, by omega, h3, h4⟩
theorem row_spec (Z : N2) (x : Int32) : ∀ d k0, (f_M_waitOf_L Z x d k0 = -1 ∧ ∀ s, k0 ≤ s → s < k0 + d → Z 1 s ≠ x) ∨ ∃ j, k0 ≤ j ∧ j < k0 + d ∧ f_M_waitOf_L Z x d k0 = nI j ∧ Z 1 j = x := by
  intro d
  induction d with
  | zero => intro k0; exact Or.inl ⟨rfl, fun s h1 h2 => by omega⟩
  | succ d ih =>
    intro k0
    rw [f_M_waitOf_L_s]
    split
    · rename_i q
      exact Or.inr ⟨k0, by omega, by omega, rfl, q⟩
    · rename_i q
      rcases ih (k0 + 1) with ⟨h1, h2⟩ | ⟨j, h1, h2, h3, h4⟩
      · refine Or.inl ⟨h1, fun s a1 a2 => ?_⟩
        by_cases e : s = k0
        · subst e; exact q
        · exact h2 s (by omega) (by omega)
      · exact Or.inr ⟨j, by omega, by omega, h3, h4⟩
theorem row_cases (n : Nat) (Z : N2) (x : Int32) : (f_M_waitOf n Z x = -1 ∧ ∀ s, s < n → Z 1 s ≠ x) ∨ ∃ j, j < n ∧ f_M_waitOf n Z x = nI j ∧ Z 1 j = x := by
  rcases row_spec Z x n 0 with ⟨h1, h2⟩ | ⟨j, h1, h2, h3, h4⟩
  · exact Or.inl ⟨h1, fun s hs => h2 s (by omega) (by omega)⟩
  · exact Or.inr ⟨j, by omega, h3, h4⟩
theorem ahead_spec (V : N2) (x : Int32) : ∀ d k0, f_M_ahead_L V x d k0 = -1 ∨ ∃ j, k0 ≤ j ∧ j < k0 + d ∧ f_M_ahead_L V x d k0 = nI j ∧ V 1 j = x ∧ V 2 j = 0 := by
  intro d
  induction d with
  | zero => intro k0; exact Or.inl rfl
  | succ d ih =>
    intro k0
    have e2 : f_M_ahead_L V x d (k0 + 1) = -1 ∨ ∃ j, k0 ≤ j ∧ j < k0 + (d + 1) ∧ f_M_ahead_L V x d (k0 + 1) = nI j ∧ V 1 j = x ∧ V 2 j = 0 := by
      rcases ih (k0 + 1) with h | ⟨j, h1, h2, h3⟩
      · exact Or.inl h
      · exact Or.inr ⟨j, by omega, by omega, h3⟩
    rw [f_M_ahead_L_s]
    split
    · rename_i q
      split
      · rename_i q2
        exact Or.inr ⟨k0, by omega, by omega, rfl, q, q2⟩
      · exact e2
    · exact e2
theorem ahead_cases (c : Nat) (V : N2) (x : Int32) : f_M_ahead c V x = -1 ∨ ∃ j, j < c ∧ f_M_ahead c V x = nI j ∧ V 1 j = x ∧ V 2 j = 0 := by
  rcases ahead_spec V x c 0 with h1 | ⟨j, h1, h2, h3⟩
  · exact Or.inl h1
  · exact Or.inr ⟨j, by omega, h3⟩
theorem nI_inj {a b : Nat} (ha : a < 2 ^ 31) (hb : b < 2 ^ 31) (h : nI a = nI b) : a = b := (nI_eq ha hb).mp h
theorem seatOf_nI {j : Nat} (hj : j < 60) (k : Nat) (Z : N2) : f_S_seatOf k Z (nI j) = f_M_seatOf k Z (nI j) := by
  unfold f_S_seatOf
  rw [if_neg (isPerson_nI hj), seat_eq]
theorem row60 {k n j : Nat} {Z : N2} (hS : RS k n Z) (hn : n ≤ 60) (hj : j < 60) (h : ∀ s, s < n → Z 1 s ≠ nI j) : n < 60 := by
  obtain ⟨-, h2, h3, -⟩ := hS
  have := pigeon 60 (n + 1) (fun i => if i = n then j else (Z 1 i).toNatClampNeg) (fun i hi => by
    show (if i = n then j else (Z 1 i).toNatClampNeg) < 60
    split
    · exact hj
    · obtain ⟨q, hq, e⟩ := h2 i (by omega)
      rw [e, nI_clamp (by omega)]
      exact hq) (fun i i' hii hi' => by
    show (if i = n then j else (Z 1 i).toNatClampNeg) ≠ (if i' = n then j else (Z 1 i').toNatClampNeg)
    rw [if_neg (by omega)]
    obtain ⟨q, hq, e⟩ := h2 i (by omega)
    rw [e, nI_clamp (by omega)]
    split
    · intro z
      exact h i (by omega) (by rw [e, z])
    · obtain ⟨q', hq', e'⟩ := h2 i' (by omega)
      rw [e', nI_clamp (by omega)]
      intro z
      exact h3 i i' hii (by omega) (by rw [e, e', z]))
  omega
/-! how many -/
theorem cntQ (V : N2) (x : Int32) : ∀ d k0, f_Q_countHandedOut_L V x d k0 (nI (cnt (fun i => decide (V 0 i = x ∧ V 2 i = 2)) k0)) = nI (cnt (fun i => decide (V 0 i = x ∧ V 2 i = 2)) (k0 + d)) := by
  intro d
  induction d with
  | zero => intro k0; rfl
  | succ d ih =>
    intro k0
    have e : ∀ b : Bool, b = decide (V 0 k0 = x ∧ V 2 k0 = 2) → cnt (fun i => decide (V 0 i = x ∧ V 2 i = 2)) (k0 + 1) = cnt (fun i => decide (V 0 i = x ∧ V 2 i = 2)) k0 + (if b then 1 else 0) := fun b hb => by rw [hb]; rfl
    rw [f_Q_countHandedOut_L_s, nI_1]
    rw [show k0 + (d + 1) = k0 + 1 + d by omega]
    split
    · rename_i q
      split
      · rename_i q2
        rw [← ih, e true (by simp [q, q2])]
        rfl
      · rename_i q2
        rw [← ih, e false (by simp [q2])]
        rfl
    · rename_i q
      rw [← ih, e false (by simp [q])]
      rfl
theorem cntM (U V : N2) (x : Int32) : ∀ d k0, f_M_has_L U V x d k0 (nI (cnt (fun u => decide (U 0 u = 2 ∧ V 0 (U 3 u).toNatClampNeg = x)) k0)) = nI (cnt (fun u => decide (U 0 u = 2 ∧ V 0 (U 3 u).toNatClampNeg = x)) (k0 + d)) := by
  intro d
  induction d with
  | zero => intro k0; rfl
  | succ d ih =>
    intro k0
    have e : ∀ b : Bool, b = decide (U 0 k0 = 2 ∧ V 0 (U 3 k0).toNatClampNeg = x) → cnt (fun u => decide (U 0 u = 2 ∧ V 0 (U 3 u).toNatClampNeg = x)) (k0 + 1) = cnt (fun u => decide (U 0 u = 2 ∧ V 0 (U 3 u).toNatClampNeg = x)) k0 + (if b then 1 else 0) := fun b hb => by rw [hb]; rfl
    rw [f_M_has_L_s, nI_1, i32_a0]
    rw [show k0 + (d + 1) = k0 + 1 + d by omega]
    split
    · rename_i q
      split
      · rename_i q2
        rw [← ih, e true (by simp [q, q2])]
        rfl
      · rename_i q2
        rw [← ih, e false (by simp [q2])]
        rfl
    · rename_i q
      rw [← ih, e false (by simp [q])]
      rfl
theorem has_eq {c : Nat} {U V : N2} (hc : c ≤ 300) (hU : RU c U V) (x : Int32) : f_M_has U V x = f_Q_countHandedOut c V x := by
  have a1 := cntM U V x 80 0
  have a2 := cntQ V x c 0
  rw [Nat.zero_add] at a1 a2
  have b1 : f_M_has U V x = nI (cnt (fun u => decide (U 0 u = 2 ∧ V 0 (U 3 u).toNatClampNeg = x)) 80) := a1
  have b2 : f_Q_countHandedOut c V x = nI (cnt (fun i => decide (V 0 i = x ∧ V 2 i = 2)) c) := a2
  obtain ⟨h1, h2, -⟩ := hU
  have two : ∀ u, u < 80 → U 0 u = 2 → ∃ i, i < c ∧ U 3 u = nI i ∧ V 1 i = nI u ∧ V 2 i = 2 := by
    intro u hu q
    rcases h1 u hu with ⟨z, -⟩ | z | ⟨i, hi, e3, e1, ⟨z, -⟩ | ⟨-, z⟩⟩
    · rw [q] at z; exact absurd z (by decide)
    · rw [q] at z; exact absurd z (by decide)
    · rw [q] at z; exact absurd z (by decide)
    · exact ⟨i, hi, e3, e1, z⟩
  rw [b1, b2, cnt_swap (fun u i => decide (U 0 u = 2 ∧ V 0 i = x ∧ U 3 u = nI i)) _ (fun i => decide (V 0 i = x ∧ V 2 i = 2)) 80 c]
  · intro u hu
    by_cases q : U 0 u = 2 ∧ V 0 (U 3 u).toNatClampNeg = x
    · rw [if_pos (by simpa using q)]
      obtain ⟨i, hi, e3, e1, e2⟩ := two u hu q.1
      have q2 := q.2
      rw [e3, nI_clamp (by omega)] at q2
      refine cnt_one (k := i) (by simp [q.1, q2, e3]) c hi (fun i' hi' hne => ?_)
      have : ¬ (U 0 u = 2 ∧ V 0 i' = x ∧ U 3 u = nI i') := fun z => hne (nI_inj (by omega) (by omega) (by rw [← e3]; exact z.2.2.symm))
      simpa using this
    · rw [if_neg (by simpa using q)]
      refine cnt_zero c (fun i hi => ?_)
      have : ¬ (U 0 u = 2 ∧ V 0 i = x ∧ U 3 u = nI i) := fun z => q ⟨z.1, by rw [z.2.2, nI_clamp (by omega)]; exact z.2.1⟩
      simpa using this
  · intro i hi
    by_cases q : V 0 i = x ∧ V 2 i = 2
    · rw [if_pos (by simpa using q)]
      obtain ⟨u, hu, e1, e0, e3⟩ := h2 i hi q.2
      refine cnt_one (k := u) (by simp [q.1, e0, e3]) 80 hu (fun u' hu' hne => ?_)
      have : ¬ (U 0 u' = 2 ∧ V 0 i = x ∧ U 3 u' = nI i) := fun z => by
        obtain ⟨i', hi', f3, f1, f2⟩ := two u' hu' z.1
        have e : i' = i := nI_inj (by omega) (by omega) (by rw [← f3]; exact z.2.2)
        subst e
        exact hne (nI_inj (by omega) (by omega) (by rw [← f1, e1]))
      simpa using this
    · rw [if_neg (by simpa using q)]
      refine cnt_zero 80 (fun u hu => ?_)
      have : ¬ (U 0 u = 2 ∧ V 0 i = x ∧ U 3 u = nI i) := fun z => by
        obtain ⟨i', hi', f3, f1, f2⟩ := two u hu z.1
        have e : i' = i := nI_inj (by omega) (by omega) (by rw [← f3]; exact z.2.2)
        subst e
        exact q ⟨z.2.1, f2⟩
      simpa using this
