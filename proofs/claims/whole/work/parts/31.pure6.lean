/-! units that go about -/
theorem RU_upd {c u : Nat} {U U' V V' : N2} (h : RU c U V) (hu : u < 80) (a0 : ∀ y, y ≠ u → U' 0 y = U 0 y ∧ U' 3 y = U 3 y) (v1 : ∀ i, V' 1 i = V 1 i) (v2 : ∀ i, V 1 i ≠ nI u → V' 2 i = V 2 i) (b1 : (U' 0 u = 0 ∧ U' 3 u = -1) ∨ U' 0 u = 3 ∨ ∃ i, i < c ∧ U' 3 u = nI i ∧ V 1 i = nI u ∧ ((U' 0 u = 1 ∧ V' 2 i = 1) ∨ (U' 0 u = 2 ∧ V' 2 i = 2))) (b2 : ∀ i, i < c → V 1 i = nI u → V' 2 i = 2 → U' 0 u = 2 ∧ U' 3 u = nI i) (b3 : ∀ y, y < 80 → ∃ j, j < 4 ∧ U' 1 y = nI j) : RU c U' V' := by
  obtain ⟨h1, h2, h3⟩ := h
  refine ⟨fun y hy => ?_, fun i hi q => ?_, b3⟩
  · by_cases e : y = u
    · subst e
      rcases b1 with z | z | ⟨i, i1, i2, i3, i4⟩
      · exact Or.inl z
      · exact Or.inr (Or.inl z)
      · exact Or.inr (Or.inr ⟨i, i1, i2, (v1 i).trans i3, i4⟩)
    · rw [(a0 y e).1, (a0 y e).2]
      rcases h1 y hy with z | z | ⟨i, i1, i2, i3, i4⟩
      · exact Or.inl z
      · exact Or.inr (Or.inl z)
      · refine Or.inr (Or.inr ⟨i, i1, i2, (v1 i).trans i3, ?_⟩)
        rw [v2 i (fun z => e (nI_inj (by omega) (by omega) (i3.symm.trans z)))]
        exact i4
  · rw [v1 i]
    by_cases e : V 1 i = nI u
    · obtain ⟨q1, q2⟩ := b2 i hi e q
      exact ⟨u, hu, e, q1, q2⟩
    · rw [v2 i e] at q
      obtain ⟨y, hy, y1, y2, y3⟩ := h2 i hi q
      have ey : y ≠ u := fun z => e (by rw [y1, z])
      exact ⟨y, hy, y1, (a0 y ey).1.trans y2, (a0 y ey).2.trans y3⟩
/-- who is out for a unit -/
theorem RU_out {c u i : Nat} {U V : N2} (h : RU c U V) (hu : u < 80) (hi : i < c) (e : V 1 i = nI u) (q : V 2 i = 2) : U 0 u = 2 ∧ U 3 u = nI i := by
  obtain ⟨y, hy, y1, y2, y3⟩ := h.2.1 i hi q
  have : y = u := nI_inj (by omega) (by omega) (by rw [← y1, e])
  subst this
  exact ⟨y2, y3⟩
/-- with whom a unit is -/
theorem RU_at {c u : Nat} {U V : N2} (h : RU c U V) (hu : u < 80) (q : U 0 u = 1 ∨ U 0 u = 2) : ∃ i, i < c ∧ U 3 u = nI i ∧ V 1 i = nI u ∧ ((U 0 u = 1 ∧ V 2 i = 1) ∨ (U 0 u = 2 ∧ V 2 i = 2)) := by
  rcases h.1 u hu with ⟨z, -⟩ | z | z
  · rw [z] at q
    rcases q with q | q
    · exact absurd q (by decide)
    · exact absurd q (by decide)
  · rw [z] at q
    rcases q with q | q
    · exact absurd q (by decide)
    · exact absurd q (by decide)
  · exact z
theorem placeOf_nI {u : Nat} (hu : u < 80) (U : N2) : f_H_placeOf U (nI u) = U 0 u := by
  unfold f_H_placeOf
  rw [if_neg (isUnit_nI hu), nI_clamp (by omega)]
theorem conditionOf_nI {u : Nat} (hu : u < 80) (U : N2) : f_H_conditionOf U (nI u) = U 1 u := by
  unfold f_H_conditionOf
  rw [if_neg (isUnit_nI hu), nI_clamp (by omega)]
theorem restrictionOf_nI {u : Nat} (hu : u < 80) (U : N2) : f_H_restrictionOf U (nI u) = U 2 u := by
  unfold f_H_restrictionOf
  rw [if_neg (isUnit_nI hu), nI_clamp (by omega)]
theorem requestOf_nI {u : Nat} (hu : u < 80) (U : N2) : f_H_requestOf U (nI u) = U 3 u := by
  unfold f_H_requestOf
  rw [if_neg (isUnit_nI hu), nI_clamp (by omega)]
theorem setCondition_nI {u : Nat} (hu : u < 80) (U : N2) (v : Int32) : f_H_setCondition U (nI u) v = up2 U 1 u v := by
  unfold f_H_setCondition
  rw [if_neg (isUnit_nI hu), nI_clamp (by omega)]
theorem setRestriction_nI {u : Nat} (hu : u < 80) (U : N2) (v : Int32) : f_H_setRestriction U (nI u) v = up2 U 2 u v := by
  unfold f_H_setRestriction
  rw [if_neg (isUnit_nI hu), nI_clamp (by omega)]
theorem unitOf_nI {c i : Nat} (hc : c ≤ 300) (hi : i < c) (V : N2) : f_Q_unitOf c V (nI i) = V 1 i := by
  unfold f_Q_unitOf
  rw [if_neg (has_lt hc hi), nI_clamp (by omega)]
theorem markHandedOut_nI {c i : Nat} (hc : c ≤ 300) (hi : i < c) (V : N2) (v : Int32) : f_Q_markHandedOut c V (nI i) v = up2 (up2 V 2 i 2) 4 i v := by
  unfold f_Q_markHandedOut
  rw [if_neg (has_lt hc hi), nI_clamp (by omega)]
theorem four {x : Int32} (h : ∃ j, j < 4 ∧ x = nI j) : x = 0 ∨ x = 1 ∨ x = 2 ∨ x = 3 := by
  obtain ⟨j, hj, rfl⟩ := h
  rcases (show j = 0 ∨ j = 1 ∨ j = 2 ∨ j = 3 by omega) with rfl | rfl | rfl | rfl <;> decide
theorem RQ_upd {c : Nat} {V V' : N2} (h : RQ c V) (v0 : ∀ i, V' 0 i = V 0 i) (v2 : ∀ i, V' 2 i = V 2 i ∨ ∃ j, j < 5 ∧ V' 2 i = nI j) : RQ c V' := by
  refine ⟨fun i => by rw [v0]; exact h.1 i, fun i hi => ?_⟩
  rcases v2 i with z | z
  · rw [z]; exact h.2 i hi
  · exact z
/-- a unit is sent for -/
theorem ok_send {nw t r : Int32} {k n c u i : Nat} {Z P U V PM : N2} (h : Rel nw k n c Z P U V PM) (h0 : 0 ≤ t) (hu : u < 80) (hi : i < c) (e1 : V 1 i = nI u) (x : Int32) (hx : ∃ j, j < 4 ∧ x = nI j) (ne : ¬ U 0 u = 2) : Rel t k n c Z P (up2 (up2 (up2 U 1 u x) 0 u 1) 3 u (nI i)) (up2 V 2 i 1) PM := by
  obtain ⟨⟨hk, hn, hc, -⟩, hS, hQ, hU, hP⟩ := h
  refine ⟨⟨hk, hn, hc, h0⟩, hS, RQ_upd hQ (fun y => up2_ne _ _ _ _ _ _ (by decide)) (fun y => ?_), RU_upd hU hu (fun y hy => ?_) (fun y => up2_ne _ _ _ _ _ _ (by decide)) (fun y hy => ?_) (Or.inr (Or.inr ⟨i, hi, up2_at _ _ _ _, e1, Or.inl ⟨?_, up2_at _ _ _ _⟩⟩)) (fun y hy ey q => ?_) (fun y hy => ?_), hP⟩
  · by_cases z : y = i
    · subst z
      exact Or.inr ⟨1, by omega, by rw [up2_at]; decide⟩
    · exact Or.inl (up2_ni _ _ _ _ _ _ z)
  · rw [up2_ni _ _ _ _ _ _ hy, up2_ni _ _ _ _ _ _ hy, up2_ni _ _ _ _ _ _ hy, up2_ni _ _ _ _ _ _ hy, up2_ni _ _ _ _ _ _ hy, up2_ni _ _ _ _ _ _ hy]
    exact ⟨rfl, rfl⟩
  · exact up2_ni _ _ _ _ _ _ (fun z => hy (by rw [z, e1]))
  · rw [up2_ne _ _ _ _ _ _ (by decide), up2_at]
  · by_cases z : y = i
    · subst z
      rw [up2_at] at q
      exact absurd q (by decide)
    · rw [up2_ni _ _ _ _ _ _ z] at q
      exact absurd (RU_out hU hu hy ey q).1 ne
  · rw [up2_ne _ _ _ _ _ _ (by decide), up2_ne _ _ _ _ _ _ (by decide), up2_eq]
    split
    · exact hx
    · exact hU.2.2 y hy
theorem ok_fetch {nw : Int32} {k n c : Nat} {Z P U V PM : N2} (h : Rel nw k n c Z P U V PM) (u t : Int32) : Ok k (f_X_fetch nw n c Z P U V u t) (f_M_fetch nw n c Z PM U V u t) := by
  have h' := h
  obtain ⟨⟨hk, hn, hc, h0⟩, hS, hQ, hU, hP⟩ := h'
  have he : f_M_isNow nw t = f_X_isTime nw t := rfl
  unfold f_X_fetch f_M_fetch
  rw [isUnitM, he]
  rcases Classical.em (f_isUnit u = 0) with hp | hp
  · rw [if_pos hp, if_pos hp]; exact Ok.mk h
  rw [if_neg hp, if_neg hp]
  rcases Classical.em (f_X_isTime nw t = 0) with q | q
  · rw [if_pos q, if_pos q]; exact Ok.mk h
  rw [if_neg q, if_neg q]
  obtain ⟨j, hj, rfl⟩ := unit_nI hp
  rw [placeOf_nI hj, conditionOf_nI hj, ahead_eq hc, nI_clamp (by omega)]
  rcases Classical.em (U 0 j = 0) with q1 | q1
  · rw [if_pos q1, if_pos q1]
    rcases ahead_cases c V (nI j) with e | ⟨i, hi, e, e1, e2⟩
    · rw [e, if_pos rfl, if_pos (show (-1 : Int32) < 0 by decide)]
      exact Ok.mk h
    · rw [e, if_neg (nI_ne_m1 (by omega)), if_neg (nI_pos (by omega))]
      have s1 := ok_send (r := 0) h (time_0 h0 q) hj hi e1 (U 1 j) (hU.2.2 j hj) (by rw [q1]; decide)
      rw [up2_same] at s1
      have g : Ok k (nI i, t, nI n, nI c, Z, P, (f_X_sendFor c U V (nI j) (nI i)).1, (f_X_sendFor c U V (nI j) (nI i)).2) ((f_M_fetchFor U V (nI j) (nI i)).1, 0, t, nI n, nI c, Z, PM, (f_M_fetchFor U V (nI j) (nI i)).2.1, (f_M_fetchFor U V (nI j) (nI i)).2.2) := by
        unfold f_X_sendFor f_M_fetchFor
        rw [put_nI hj, setState_nI hc hi, nI_clamp (by omega), nI_clamp (by omega)]
        exact Ok.mk s1
      rcases four (hU.2.2 j hj) with z | z | z | z
      · rw [z, if_pos (by decide), if_neg (by decide)]; exact g
      · rw [z, if_pos (by decide), if_neg (by decide)]; exact g
      · rw [z, if_pos (by decide), if_neg (by decide)]; exact g
      · rw [z, if_neg (by decide), if_pos (by decide)]; exact Ok.mk h
  · rw [if_neg q1, if_neg q1]
    exact Ok.mk h
theorem ok_look {nw : Int32} {k n c : Nat} {Z P U V PM : N2} (h : Rel nw k n c Z P U V PM) (u x : Int32) : Ok k (f_X_look nw n c Z P U V u x) (f_M_look nw n c Z PM U V u x) := by
  have h' := h
  obtain ⟨⟨hk, hn, hc, h0⟩, hS, hQ, hU, hP⟩ := h'
  unfold f_X_look f_M_look
  rw [isUnitM, in_eq]
  rcases Classical.em (f_isUnit u = 0) with hp | hp
  · rw [if_pos hp, if_pos hp]; exact Ok.mk h
  rw [if_neg hp, if_neg hp]
  obtain ⟨j, hj, rfl⟩ := unit_nI hp
  rw [placeOf_nI hj, conditionOf_nI hj, setCondition_nI hj, put_nI hj, ahead_eq hc, nI_clamp (by omega)]
  rcases Classical.em (f_isWithin x (U 1 j) 3 = 0) with q | q
  · rw [if_pos q, if_pos q]; exact Ok.mk h
  rw [if_neg q, if_neg q]
  have hx : ∃ j, j < 4 ∧ x = nI j := by
    obtain ⟨x1, x2⟩ := isWithin_nz q
    obtain ⟨a, ha, ea⟩ := hU.2.2 j hj
    have : ¬ x < 0 := Int32.not_lt.mpr (Int32.le_trans (by rw [ea]; exact nI_pos' (by omega)) x1)
    obtain ⟨b, hb, eb⟩ := nI_of2 (M := 3) (n := 3) (by decide) this x2
    exact ⟨b, by omega, eb⟩
  rcases Classical.em (U 0 j = 3) with q1 | q1
  · rw [if_pos q1, if_pos q1]
    have g0 : Ok k (1000, nw, nI n, nI c, Z, P, up2 (up2 (up2 U 1 j x) 0 j 0) 3 j (-1), V) (1000, 0, nw, nI n, nI c, Z, PM, up2 (up2 (up2 U 1 j x) 0 j 0) 3 j (-1), V) := by
      refine Ok.mk ⟨⟨hk, hn, hc, h0⟩, hS, hQ, RU_upd hU hj (fun y hy => ?_) (fun y => rfl) (fun y hy => rfl) (Or.inl ⟨?_, up2_at _ _ _ _⟩) (fun y hy ey z => ?_) (fun y hy => ?_), hP⟩
      · rw [up2_ni _ _ _ _ _ _ hy, up2_ni _ _ _ _ _ _ hy, up2_ni _ _ _ _ _ _ hy, up2_ni _ _ _ _ _ _ hy, up2_ni _ _ _ _ _ _ hy, up2_ni _ _ _ _ _ _ hy]
        exact ⟨rfl, rfl⟩
      · rw [up2_ne _ _ _ _ _ _ (by decide), up2_at]
      · have := (RU_out hU hj hy ey z).1
        rw [q1] at this
        exact absurd this (by decide)
      · rw [up2_ne _ _ _ _ _ _ (by decide), up2_ne _ _ _ _ _ _ (by decide), up2_eq]
        split
        · exact hx
        · exact hU.2.2 y hy
    rcases Classical.em (1 < x) with q2 | q2
    · rw [if_pos q2, if_pos ((i32_gt1 x).mp q2)]
      exact g0
    · rw [if_neg q2, if_neg (fun z => q2 ((i32_gt1 x).mpr z))]
      rcases ahead_cases c V (nI j) with e | ⟨i, hi, e, e1, e2⟩
      · rw [e, if_pos rfl, if_pos (show (-1 : Int32) < 0 by decide)]
        exact g0
      · rw [e, if_neg (nI_ne_m1 (by omega)), if_neg (nI_pos (by omega))]
        have s1 := ok_send (r := 0) h h0 hj hi e1 x hx (by rw [q1]; decide)
        unfold f_X_sendFor f_M_fetchFor
        rw [put_nI hj, setState_nI hc hi, nI_clamp (by omega), nI_clamp (by omega)]
        exact Ok.mk s1
  · rw [if_neg q1, if_neg q1]
    exact Ok.mk h
theorem ok_mend {nw : Int32} {k n c : Nat} {Z P U V PM : N2} (h : Rel nw k n c Z P U V PM) (u : Int32) : Ok k (f_X_mend nw n c Z P U V u) (f_M_mend nw n c Z PM U V u) := by
  have h' := h
  obtain ⟨hb, hS, hQ, hU, hP⟩ := h'
  unfold f_X_mend f_M_mend
  rw [isUnitM]
  rcases Classical.em (f_isUnit u = 0) with hp | hp
  · rw [if_pos hp, if_pos hp]; exact Ok.mk h
  rw [if_neg hp, if_neg hp]
  obtain ⟨j, hj, rfl⟩ := unit_nI hp
  rw [placeOf_nI hj, setCondition_nI hj, nI_clamp (by omega)]
  rcases Classical.em (U 0 j = 0) with q1 | q1
  · rw [if_pos q1, if_pos q1]
    refine Ok.mk ⟨hb, hS, hQ, ⟨fun y hy => ?_, fun i hi q => ?_, fun y hy => ?_⟩, hP⟩
    · rw [up2_ne _ _ _ _ _ _ (by decide), up2_ne _ _ _ _ _ _ (by decide)]
      exact hU.1 y hy
    · obtain ⟨y, y0, y1, y2, y3⟩ := hU.2.1 i hi q
      exact ⟨y, y0, y1, by rw [up2_ne _ _ _ _ _ _ (by decide)]; exact y2, by rw [up2_ne _ _ _ _ _ _ (by decide)]; exact y3⟩
    · rw [up2_eq]
      split
      · exact ⟨0, by omega, by decide⟩
      · exact hU.2.2 y hy
  · rw [if_neg q1, if_neg q1]
    exact Ok.mk h
theorem ok_back {nw : Int32} {k n c : Nat} {Z P U V PM : N2} (h : Rel nw k n c Z P U V PM) (u t : Int32) : Ok k (f_X_back nw n c Z P U V u t) (f_M_back nw n c Z PM U V u t) := by
  have h' := h
  obtain ⟨⟨hk, hn, hc, h0⟩, hS, hQ, hU, hP⟩ := h'
  have he : f_M_isNow nw t = f_X_isTime nw t := rfl
  unfold f_X_back f_M_back
  rw [isUnitM, he]
  rcases Classical.em (f_isUnit u = 0) with hp | hp
  · rw [if_pos hp, if_pos hp]; exact Ok.mk h
  rw [if_neg hp, if_neg hp]
  rcases Classical.em (f_X_isTime nw t = 0) with q | q
  · rw [if_pos q, if_pos q]; exact Ok.mk h
  rw [if_neg q, if_neg q]
  obtain ⟨j, hj, rfl⟩ := unit_nI hp
  rw [placeOf_nI hj, requestOf_nI hj, put_nI hj, nI_clamp (by omega)]
  rcases Classical.em (U 0 j = 2) with q1 | q1
  · rw [if_pos q1, if_pos q1]
    obtain ⟨i, hi, e3, e1, e2⟩ := RU_at hU hj (Or.inr q1)
    have es : up2 (up2 U 0 j 3) 3 j (U 3 j) = up2 U 0 j 3 := by
      have := up2_same (up2 U 0 j 3) 3 j
      rwa [up2_ne U 0 j 3 3 j (by decide)] at this
    rw [es, e3, markBack_nI hc hi, nI_clamp (by omega)]
    refine Ok.mk ⟨⟨hk, hn, hc, time_0 h0 q⟩, hS, RQ_upd hQ (fun y => ?_) (fun y => ?_), RU_upd hU hj (fun y hy => ?_) (fun y => ?_) (fun y hy => ?_) (Or.inr (Or.inl (up2_at _ _ _ _))) (fun y hy ey z => ?_) (fun y hy => ?_), hP⟩
    · rw [up2_ne _ _ _ _ _ _ (by decide), up2_ne _ _ _ _ _ _ (by decide)]
    · rw [up2_ne _ _ _ _ _ _ (by decide)]
      by_cases z : y = i
      · subst z
        exact Or.inr ⟨3, by omega, by rw [up2_at]; decide⟩
      · exact Or.inl (up2_ni _ _ _ _ _ _ z)
    · rw [up2_ni _ _ _ _ _ _ hy, up2_ni _ _ _ _ _ _ hy]
      exact ⟨rfl, rfl⟩
    · rw [up2_ne _ _ _ _ _ _ (by decide), up2_ne _ _ _ _ _ _ (by decide)]
    · have hne : y ≠ i := fun z => hy (by rw [z, e1])
      rw [up2_ni _ _ _ _ _ _ hne, up2_ni _ _ _ _ _ _ hne]
    · rw [up2_ne _ _ _ _ _ _ (by decide)] at z
      by_cases w : y = i
      · subst w
        rw [up2_at] at z
        exact absurd z (by decide)
      · rw [up2_ni _ _ _ _ _ _ w] at z
        have := (RU_out hU hj hy ey z).2
        exact absurd (nI_inj (by omega) (by omega) (this.symm.trans e3)) w
    · rw [up2_ne _ _ _ _ _ _ (by decide)]
      exact hU.2.2 y hy
  · rw [if_neg q1, if_neg q1]
    exact Ok.mk h
theorem ok_handOut {nw : Int32} {k n c : Nat} {Z P U V PM : N2} (h : Rel nw k n c Z P U V PM) (u t : Int32) : Ok k (f_X_handOut nw k n c Z P U V u t) (f_M_handOut nw k n c Z PM U V u t) := by
  have h' := h
  obtain ⟨⟨hk, hn, hc, h0⟩, hS, hQ, hU, hP⟩ := h'
  have he : f_M_isNow nw t = f_X_isTime nw t := rfl
  unfold f_X_handOut f_M_handOut
  rw [isUnitM, he]
  rcases Classical.em (f_isUnit u = 0) with hp | hp
  · rw [if_pos hp, if_pos hp]; exact Ok.mk h
  rw [if_neg hp, if_neg hp]
  rcases Classical.em (f_X_isTime nw t = 0) with q | q
  · rw [if_pos q, if_pos q]; exact Ok.mk h
  rw [if_neg q, if_neg q]
  obtain ⟨j, hj, rfl⟩ := unit_nI hp
  unfold f_X_isRightTooLow
  rw [placeOf_nI hj, requestOf_nI hj, restrictionOf_nI hj, put_nI hj, nI_clamp (show j < 2 ^ 31 by omega)]
  rcases Classical.em (U 0 j = 1) with q1 | q1
  · rw [if_pos q1, if_pos q1]
    obtain ⟨i, hi, e3, e1, e2⟩ := RU_at hU hj (Or.inl q1)
    have es : up2 (up2 U 0 j 2) 3 j (U 3 j) = up2 U 0 j 2 := by
      have := up2_same (up2 U 0 j 2) 3 j
      rwa [up2_ne U 0 j 2 3 j (by decide)] at this
    obtain ⟨p, hp', ep⟩ := hQ.1 i
    unfold f_S_isSeated
    rw [es, e3, markHandedOut_nI hc hi, personOf_nI hc hi, nI_clamp (show i < 2 ^ 31 by omega), ep, seatOf_nI hp', rightOf_nI hp', nI_clamp (show p < 2 ^ 31 by omega), hP.1]
    rcases seat_cases k Z (nI p) with ⟨e, hs⟩ | ⟨s, hs, e, es'⟩
    · rw [e, if_pos rfl, if_pos rfl, if_neg (show ¬ (0 : Int32) ≤ -1 by decide)]
      exact Ok.mk h
    · rw [e, if_neg (nI_ne_m1 (by omega)), if_neg (show ¬ (1 : Int32) = 0 by decide), if_pos (nI_pos' (by omega))]
      rcases Classical.em (U 2 j ≤ P 0 p) with q2 | q2
      · rw [if_pos q2, if_pos rfl, if_pos q2]
        refine Ok.mk ⟨⟨hk, hn, hc, time_0 h0 q⟩, hS, RQ_upd hQ (fun y => ?_) (fun y => ?_), RU_upd hU hj (fun y hy => ?_) (fun y => ?_) (fun y hy => ?_) (Or.inr (Or.inr ⟨i, hi, ?_, e1, Or.inr ⟨up2_at _ _ _ _, ?_⟩⟩)) (fun y hy ey z => ?_) (fun y hy => ?_), hP⟩
        · rw [up2_ne _ _ _ _ _ _ (by decide), up2_ne _ _ _ _ _ _ (by decide)]
        · rw [up2_ne _ _ _ _ _ _ (by decide)]
          by_cases z : y = i
          · subst z
            exact Or.inr ⟨2, by omega, by rw [up2_at]; decide⟩
          · exact Or.inl (up2_ni _ _ _ _ _ _ z)
        · rw [up2_ni _ _ _ _ _ _ hy, up2_ni _ _ _ _ _ _ hy]
          exact ⟨rfl, rfl⟩
        · rw [up2_ne _ _ _ _ _ _ (by decide), up2_ne _ _ _ _ _ _ (by decide)]
        · have hne : y ≠ i := fun z => hy (by rw [z, e1])
          rw [up2_ni _ _ _ _ _ _ hne, up2_ni _ _ _ _ _ _ hne]
        · rw [up2_ne _ _ _ _ _ _ (by decide)]; exact e3
        · rw [up2_ne _ _ _ _ _ _ (by decide), up2_at]
        · rw [up2_ne _ _ _ _ _ _ (by decide)] at z
          by_cases w : y = i
          · subst w
            exact ⟨up2_at _ _ _ _, by rw [up2_ne _ _ _ _ _ _ (by decide)]; exact e3⟩
          · rw [up2_ni _ _ _ _ _ _ w] at z
            have := (RU_out hU hj hy ey z).1
            rw [q1] at this
            exact absurd this (by decide)
        · rw [up2_ne _ _ _ _ _ _ (by decide)]
          exact hU.2.2 y hy
      · rw [if_neg q2, if_neg (show ¬ (1 : Int32) = 0 by decide), if_neg q2]
        exact Ok.mk h
  · rw [if_neg q1, if_neg q1]
    exact Ok.mk h
