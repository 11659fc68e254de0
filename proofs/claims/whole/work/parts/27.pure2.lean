theorem up2_comm {Z : N2} {j j' i i' : Nat} {v w : Int32} (h : j ≠ j') : up2 (up2 Z j i v) j' i' w = up2 (up2 Z j' i' w) j i v := by
  funext b y
  simp only [up2_eq]
  by_cases h1 : b = j
  · have h2 : b ≠ j' := fun q => h (h1.symm.trans q)
    simp [h1, h]
  · simp [h1]
/-! the row -/
theorem lr1 (n : Nat) (w : Int32) : ∀ d k0 (Z : N2), (f_M_leaveRow_L n w d k0 Z).1 = nI (n - 1) := by
  intro d
  induction d with
  | zero => intro k0 Z; rfl
  | succ d ih => intro k0 Z; rw [f_M_leaveRow_L_s]; exact ih _ _
theorem drop_L (n : Nat) (q w : Int32) : ∀ d k0 (Z : N2), f_S_dropFromRow_L n q d (k0 + 1) Z = (nI n - 1, (f_M_leaveRow_L n w d k0 Z).2) := by
  intro d
  induction d with
  | zero => intro k0 Z; rfl
  | succ d ih =>
    intro k0 Z
    rw [f_S_dropFromRow_L_s, f_M_leaveRow_L_s, ih, Nat.add_sub_cancel]
theorem drop_eq {n j : Nat} (hn : n ≤ 60) (hj : j < n) (Z : N2) : f_S_dropFromRow n Z (nI j) = f_M_leaveRow n Z (nI j) := by
  unfold f_S_dropFromRow f_M_leaveRow
  have h1 : ¬ f_isWithin (nI j) 0 (nI n - 1) = 0 := has_lt (c := n) (by omega) hj
  rw [if_neg h1, nI_clamp (by omega), drop_L n (nI j) (nI j), nI_m1 (by omega), show n - (j + 1) = n - 1 - j by omega]
  rw [← lr1 n (nI j) (n - 1 - j) j Z]
theorem lr_L (n : Nat) (w : Int32) : ∀ d k0 (Z : N2), k0 + d = n - 1 → (∀ s, (f_M_leaveRow_L n w d k0 Z).2 0 s = Z 0 s) ∧ ∀ i, (f_M_leaveRow_L n w d k0 Z).2 1 i = if k0 ≤ i ∧ i < n - 1 then Z 1 (i + 1) else Z 1 i := by
  intro d
  induction d with
  | zero =>
    intro k0 Z h
    refine ⟨fun s => rfl, fun i => ?_⟩
    rw [if_neg (by omega)]
    rfl
  | succ d ih =>
    intro k0 Z h
    rw [f_M_leaveRow_L_s]
    obtain ⟨h1, h2⟩ := ih (k0 + 1) (up2 Z 1 k0 (Z 1 (k0 + 1))) (by omega)
    refine ⟨fun s => ?_, fun i => ?_⟩
    · rw [h1, up2_ne _ _ _ _ _ _ (by decide)]
    · rw [h2]
      simp only [up2_eq]
      by_cases q : i = k0
      · subst q
        rw [if_neg (by omega), if_pos ⟨trivial, rfl⟩, if_pos (by omega)]
      · by_cases q2 : k0 + 1 ≤ i ∧ i < n - 1
        · rw [if_pos q2, if_neg (by omega), if_pos (by omega)]
        · rw [if_neg q2, if_neg (by omega), if_neg (by omega)]
theorem lr_row {n j : Nat} (hj : j < n) (hn : n ≤ 60) (Z : N2) : (f_M_leaveRow n Z (nI j)).1 = nI (n - 1) ∧ (∀ s, (f_M_leaveRow n Z (nI j)).2 0 s = Z 0 s) ∧ ∀ i, (f_M_leaveRow n Z (nI j)).2 1 i = if j ≤ i ∧ i < n - 1 then Z 1 (i + 1) else Z 1 i := by
  unfold f_M_leaveRow
  rw [nI_clamp (by omega)]
  obtain ⟨h1, h2⟩ := lr_L n (nI j) (n - 1 - j) j Z (by omega)
  exact ⟨lr1 _ _ _ _ _, h1, h2⟩
/-! closing -/
theorem put_nI {u : Nat} (hu : u < 80) (U : N2) (v w : Int32) : f_H_put U (nI u) v w = up2 (up2 U 0 u v) 3 u w := by
  unfold f_H_put
  rw [if_neg (isUnit_nI hu), nI_clamp (by omega)]
theorem close1_L (k c : Nat) (Z P V : N2) (t : Int32) : ∀ d k0 x (U : N2), k0 + d = 80 → (∀ u, k0 ≤ u → u < 80 → U 0 u = 0 → U 3 u = -1) → f_M_close_L1 k c Z P V t d k0 x U = f_M_close_L2 k c Z P t c 0 (f_H_storeAll_L d k0 x U).1 (f_H_storeAll_L d k0 x U).2 V := by
  intro d
  induction d with
  | zero => intro k0 x U _ _; rfl
  | succ d ih =>
    intro k0 x U h hI
    rw [f_M_close_L1_s, f_H_storeAll_L_s, put_nI (by omega), i32_a0]
    split
    · rename_i q
      have e1 : up2 (up2 U 0 k0 0) 3 k0 (-1) = U := by
        have a1 : up2 U 0 k0 0 = U := by
          have := up2_same U 0 k0
          rwa [q] at this
        rw [a1]
        have := up2_same U 3 k0
        rwa [hI k0 (Nat.le_refl _) (by omega) q] at this
      rw [e1]
      exact ih _ _ _ (by omega) (fun u h1 h2 => hI u (by omega) h2)
    · exact ih _ _ _ (by omega) (fun u h1 h2 h3 => by
        rw [up2_ni _ _ _ _ _ _ (by omega), up2_ni _ _ _ _ _ _ (by omega)] at h3
        rw [up2_ni _ _ _ _ _ _ (by omega), up2_ni _ _ _ _ _ _ (by omega)]
        exact hI u (by omega) h2 h3)
theorem store_L : ∀ d k0 x (U : N2), k0 + d = 80 → (∀ u, k0 ≤ u → u < 80 → U 0 u = 0 → U 3 u = -1) → ∀ u, (k0 ≤ u → u < 80 → (f_H_storeAll_L d k0 x U).2 0 u = 0 ∧ (f_H_storeAll_L d k0 x U).2 3 u = -1) ∧ (u < k0 → (f_H_storeAll_L d k0 x U).2 0 u = U 0 u ∧ (f_H_storeAll_L d k0 x U).2 3 u = U 3 u) ∧ (f_H_storeAll_L d k0 x U).2 1 u = U 1 u := by
  intro d
  induction d with
  | zero => intro k0 x U h _ u; exact ⟨fun h1 h2 => by omega, fun _ => ⟨rfl, rfl⟩, rfl⟩
  | succ d ih =>
    intro k0 x U h hI u
    rw [f_H_storeAll_L_s, put_nI (by omega)]
    split
    · rename_i q
      obtain ⟨h1, h2, h3⟩ := ih (k0 + 1) x U (by omega) (fun u h1 h2 => hI u (by omega) h2) u
      refine ⟨fun a1 a2 => ?_, fun a1 => h2 (by omega), h3⟩
      by_cases e : u = k0
      · subst e
        obtain ⟨b1, b2⟩ := h2 (by omega)
        exact ⟨b1.trans q, b2.trans (hI u (Nat.le_refl _) a2 q)⟩
      · exact h1 (by omega) a2
    · obtain ⟨h1, h2, h3⟩ := ih (k0 + 1) (x + 1) (up2 (up2 U 0 k0 0) 3 k0 (-1)) (by omega) (fun u h1 h2 h3 => by
        rw [up2_ni _ _ _ _ _ _ (by omega), up2_ni _ _ _ _ _ _ (by omega)] at h3
        rw [up2_ni _ _ _ _ _ _ (by omega), up2_ni _ _ _ _ _ _ (by omega)]
        exact hI u (by omega) h2 h3) u
      refine ⟨fun a1 a2 => ?_, fun a1 => ?_, ?_⟩
      · by_cases e : u = k0
        · subst e
          obtain ⟨b1, b2⟩ := h2 (by omega)
          refine ⟨b1.trans ?_, b2.trans (up2_at _ _ _ _)⟩
          rw [up2_ne _ _ _ _ _ _ (by decide), up2_at]
        · exact h1 (by omega) a2
      · obtain ⟨b1, b2⟩ := h2 (by omega)
        rw [b1, b2, up2_ni _ _ _ _ _ _ (by omega), up2_ni _ _ _ _ _ _ (by omega), up2_ni _ _ _ _ _ _ (by omega), up2_ni _ _ _ _ _ _ (by omega)]
        exact ⟨rfl, rfl⟩
      · rw [h3, up2_ne _ _ _ _ _ _ (by decide), up2_ne _ _ _ _ _ _ (by decide)]
theorem setState_nI {c i : Nat} (hc : c ≤ 300) (hi : i < c) (V : N2) (v : Int32) : f_Q_setState c V (nI i) v = up2 V 2 i v := by
  unfold f_Q_setState
  rw [if_neg (has_lt hc hi), nI_clamp (by omega)]
theorem markBack_nI {c i : Nat} (hc : c ≤ 300) (hi : i < c) (V : N2) (v : Int32) : f_Q_markBack c V (nI i) v = up2 (up2 V 2 i 3) 5 i v := by
  unfold f_Q_markBack
  rw [if_neg (has_lt hc hi), nI_clamp (by omega)]
theorem stateOf_nI {c i : Nat} (hc : c ≤ 300) (hi : i < c) (V : N2) : f_Q_stateOf c V (nI i) = V 2 i := by
  unfold f_Q_stateOf
  rw [if_neg (has_lt hc hi), nI_clamp (by omega)]
theorem five {x : Int32} (h : ∃ j, j < 5 ∧ x = nI j) : x = 0 ∨ x = 1 ∨ x = 2 ∨ x = 3 ∨ x = 4 := by
  obtain ⟨j, hj, rfl⟩ := h
  rcases (show j = 0 ∨ j = 1 ∨ j = 2 ∨ j = 3 ∨ j = 4 by omega) with rfl | rfl | rfl | rfl | rfl <;> decide
/-- what the end of a request at closing is -/
theorem endAt {c i : Nat} (hc : c ≤ 300) (hi : i < c) (V : N2) (t : Int32) (hs : ∃ j, j < 5 ∧ V 2 i = nI j) : f_Q_endAtClosing c V (nI i) t = (if V 2 i = 2 then up2 (up2 V 5 i t) 2 i 3 else if V 2 i = 0 then up2 V 2 i 4 else if V 2 i = 1 then up2 V 2 i 3 else V) := by
  unfold f_Q_endAtClosing
  rw [stateOf_nI hc hi, setState_nI hc hi, setState_nI hc hi, markBack_nI hc hi]
  rcases five hs with q | q | q | q | q <;> rw [q] <;> simp (decide := true) only [if_true, if_false, reduceIte]
  exact up2_comm (by decide)
theorem close2_L {c : Nat} (hc : c ≤ 300) (k : Nat) (Z P : N2) (t : Int32) : ∀ d k0 x (U V : N2), k0 + d = c → (∀ i, k0 ≤ i → i < c → ∃ j, j < 5 ∧ V 2 i = nI j) → f_M_close_L2 k c Z P t d k0 x U V = f_M_close_L3 c P t k 0 x Z U (f_Q_endAll_L c t d k0 V) := by
  intro d
  induction d with
  | zero => intro k0 x U V _ _; rfl
  | succ d ih =>
    intro k0 x U V h hI
    have hs := hI k0 (Nat.le_refl _) (by omega)
    have go : ∀ V' : N2, (∀ i, i ≠ k0 → V' 2 i = V 2 i) → f_M_close_L2 k c Z P t d (k0 + 1) x U V' = f_M_close_L3 c P t k 0 x Z U (f_Q_endAll_L c t d (k0 + 1) V') := fun V' hV' => ih _ _ _ _ (by omega) (fun i h1 h2 => by rw [hV' i (by omega)]; exact hI i (by omega) h2)
    rw [f_M_close_L2_s, f_Q_endAll_L_s, endAt hc (by omega) V t hs]
    rcases five hs with q | q | q | q | q
    · rw [if_neg (by rw [q]; decide), if_pos q, if_neg (by rw [q]; decide), if_pos q]
      exact go _ (fun i hi => up2_ni _ _ _ _ _ _ hi)
    · rw [if_neg (by rw [q]; decide), if_neg (by rw [q]; decide), if_neg (by rw [q]; decide), if_neg (by rw [q]; decide), if_neg (by rw [q]; decide), if_pos q]
      exact go _ (fun i hi => up2_ni _ _ _ _ _ _ hi)
    · rw [if_pos q, if_neg (by rw [q]; decide), if_neg (by rw [q]; decide), if_pos q]
      exact go _ (fun i hi => by rw [up2_ni _ _ _ _ _ _ hi, up2_ni _ _ _ _ _ _ hi])
    · rw [if_neg (by rw [q]; decide), if_neg (by rw [q]; decide), if_pos (by rw [q]; decide), if_neg (by rw [q]; decide), if_neg (by rw [q]; decide), if_neg (by rw [q]; decide), up2_same]
      exact go _ (fun i hi => rfl)
    · rw [if_neg (by rw [q]; decide), if_neg (by rw [q]; decide), if_pos (by rw [q]; decide), if_neg (by rw [q]; decide), if_neg (by rw [q]; decide), if_neg (by rw [q]; decide), up2_same]
      exact go _ (fun i hi => rfl)
theorem end_L {c : Nat} (hc : c ≤ 300) (t : Int32) : ∀ d k0 (V : N2), k0 + d = c → (∀ i, k0 ≤ i → i < c → ∃ j, j < 5 ∧ V 2 i = nI j) → (∀ i, f_Q_endAll_L c t d k0 V 0 i = V 0 i ∧ f_Q_endAll_L c t d k0 V 1 i = V 1 i) ∧ (∀ i, i < k0 → f_Q_endAll_L c t d k0 V 2 i = V 2 i) ∧ ∀ i, k0 ≤ i → i < c → f_Q_endAll_L c t d k0 V 2 i = 3 ∨ f_Q_endAll_L c t d k0 V 2 i = 4 := by
  intro d
  induction d with
  | zero => intro k0 V h _; exact ⟨fun i => ⟨rfl, rfl⟩, fun i _ => rfl, fun i h1 h2 => by omega⟩
  | succ d ih =>
    intro k0 V h hI
    have hs := hI k0 (Nat.le_refl _) (by omega)
    have go : ∀ V' : N2, (∀ i, V' 0 i = V 0 i ∧ V' 1 i = V 1 i) → (∀ i, i ≠ k0 → V' 2 i = V 2 i) → (V' 2 k0 = 3 ∨ V' 2 k0 = 4) → (∀ i, f_Q_endAll_L c t d (k0 + 1) V' 0 i = V 0 i ∧ f_Q_endAll_L c t d (k0 + 1) V' 1 i = V 1 i) ∧ (∀ i, i < k0 → f_Q_endAll_L c t d (k0 + 1) V' 2 i = V 2 i) ∧ ∀ i, k0 ≤ i → i < c → f_Q_endAll_L c t d (k0 + 1) V' 2 i = 3 ∨ f_Q_endAll_L c t d (k0 + 1) V' 2 i = 4 := by
      intro V' a1 a2 a3
      obtain ⟨b1, b2, b3⟩ := ih (k0 + 1) V' (by omega) (fun i h1 h2 => by rw [a2 i (by omega)]; exact hI i (by omega) h2)
      refine ⟨fun i => ⟨(b1 i).1.trans (a1 i).1, (b1 i).2.trans (a1 i).2⟩, fun i hi => by rw [b2 i (by omega), a2 i (by omega)], fun i h1 h2 => ?_⟩
      by_cases e : i = k0
      · subst e
        rw [b2 i (by omega)]
        exact a3
      · exact b3 i (by omega) h2
    rw [f_Q_endAll_L_s, endAt hc (by omega) V t hs]
    rcases five hs with q | q | q | q | q
    · rw [if_neg (by rw [q]; decide), if_pos q]
      exact go _ (fun i => ⟨up2_ne _ _ _ _ _ _ (by decide), up2_ne _ _ _ _ _ _ (by decide)⟩) (fun i hi => up2_ni _ _ _ _ _ _ hi) (Or.inr (up2_at _ _ _ _))
    · rw [if_neg (by rw [q]; decide), if_neg (by rw [q]; decide), if_pos q]
      exact go _ (fun i => ⟨up2_ne _ _ _ _ _ _ (by decide), up2_ne _ _ _ _ _ _ (by decide)⟩) (fun i hi => up2_ni _ _ _ _ _ _ hi) (Or.inl (up2_at _ _ _ _))
    · rw [if_pos q]
      exact go _ (fun i => ⟨by rw [up2_ne _ _ _ _ _ _ (by decide), up2_ne _ _ _ _ _ _ (by decide)], by rw [up2_ne _ _ _ _ _ _ (by decide), up2_ne _ _ _ _ _ _ (by decide)]⟩) (fun i hi => by rw [up2_ni _ _ _ _ _ _ hi, up2_ni _ _ _ _ _ _ hi]) (Or.inl (up2_at _ _ _ _))
    · rw [if_neg (by rw [q]; decide), if_neg (by rw [q]; decide), if_neg (by rw [q]; decide)]
      exact go _ (fun i => ⟨rfl, rfl⟩) (fun i hi => rfl) (Or.inl q)
    · rw [if_neg (by rw [q]; decide), if_neg (by rw [q]; decide), if_neg (by rw [q]; decide)]
      exact go _ (fun i => ⟨rfl, rfl⟩) (fun i hi => rfl) (Or.inr q)
theorem close3_L (c : Nat) (P : N2) (t x : Int32) (Z U V : N2) : ∀ d k0, f_M_close_L3 c P t d k0 x (fill2 Z 0 k0 (-1)) U V = (x, 0, t, 0, nI c, fill2 Z 0 (k0 + d) (-1), P, U, V) := by
  intro d
  induction d with
  | zero => intro k0; rfl
  | succ d ih =>
    intro k0
    rw [f_M_close_L3_s, fill2_s, ih, show k0 + 1 + d = k0 + (d + 1) by omega]
theorem fill2_eq (Z : N2) (j n : Nat) (v : Int32) (b y : Nat) : fill2 Z j n v b y = if b = j ∧ y < n then v else Z b y := by
  show (match Nat.beq b j with | true => fillF (Z b) n v | false => Z b) y = _
  cases h : Nat.beq b j with
  | true =>
    have h1 := Nat.eq_of_beq_eq_true h
    show fillF (Z b) n v y = _
    simp only [fillF, h1, true_and]
  | false =>
    have h1 : b ≠ j := fun q => by subst q; rw [Nat.beq_refl] at h; cases h
    rw [if_neg (fun q => h1 q.1)]
theorem fill_seats {k : Nat} (hk : k ≤ 20) (Z : N2) (h : ∀ s, k ≤ s → s < 20 → Z 0 s = -1) : fill2 Z 0 k (-1) = fill2 Z 0 20 (-1) := by
  funext b y
  rw [fill2_eq, fill2_eq]
  by_cases q : b = 0 ∧ y < k
  · rw [if_pos q, if_pos ⟨q.1, by omega⟩]
  · rw [if_neg q]
    by_cases q2 : b = 0 ∧ y < 20
    · rw [if_pos q2, q2.1]
      exact h y (by omega) q2.2
    · rw [if_neg q2]
