/-! asking, restricting, closing, copying -/
theorem i32_300 {c : Nat} (hc : c ≤ 300) : (nI c = 300 ↔ ¬ nI c < 300) := by
  have e : (300 : Int32) = nI 300 := by decide
  rw [e, nI_eq (by omega) (by omega), nI_ltI (by omega) (by omega)]
  omega
theorem ok_ask {nw : Int32} {k n c : Nat} {Z P U V PM : N2} (h : Rel nw k n c Z P U V PM) (pr u t : Int32) : Ok k (f_X_ask nw k n c Z P U V pr u t) (f_M_ask nw k n c Z PM U V pr u t) := by
  have h' := h
  obtain ⟨⟨hk, hn, hc, h0⟩, hS, hQ, hU, hP⟩ := h'
  have he : f_M_isNow nw t = f_X_isTime nw t := rfl
  unfold f_X_ask f_M_ask
  rw [isPersonM, isUnitM, he]
  rcases Classical.em (f_isPerson pr = 0) with hp | hp
  · rw [if_pos hp, if_pos hp]; exact Ok.mk h
  rw [if_neg hp, if_neg hp]
  rcases Classical.em (f_isUnit u = 0) with hq | hq
  · rw [if_pos hq, if_pos hq]; exact Ok.mk h
  rw [if_neg hq, if_neg hq]
  rcases Classical.em (f_X_isTime nw t = 0) with q | q
  · rw [if_pos q, if_pos q]; exact Ok.mk h
  rw [if_neg q, if_neg q]
  obtain ⟨p, hp', rfl⟩ := person_nI hp
  obtain ⟨j, hj, rfl⟩ := unit_nI hq
  unfold f_S_isSeated f_X_isRightTooLow
  rw [seatOf_nI hp', restrictionOf_nI hj, rightOf_nI hp', living_eq hc]
  rcases seat_cases k Z (nI p) with ⟨e, hs⟩ | ⟨s, hs, e, es'⟩
  · rw [e, if_pos rfl, if_pos rfl, if_neg (show ¬ (0 : Int32) ≤ -1 by decide), ask1_L]
    exact Ok.mk h
  · rw [e, if_neg (nI_ne_m1 (by omega)), if_neg (show ¬ (1 : Int32) = 0 by decide), if_pos (nI_pos' (by omega)), ask0_L hc _ _ _ _ _ _ _ _ _ c 0 (by omega)]
    have er : f_Q_isRunning_L c V (nI p) (nI j) c 0 = f_Q_isRunning c V (nI p) (nI j) := rfl
    rw [er]
    rcases Classical.em (f_Q_isRunning c V (nI p) (nI j) = 0) with q1 | q1
    · rw [if_pos q1, if_pos q1, f_M_ask_L_0, if_pos rfl, nI_clamp (show j < 2 ^ 31 by omega), nI_clamp (show p < 2 ^ 31 by omega), hP.1, hP.2.1]
      rcases Classical.em (U 2 j ≤ P 0 p) with q2 | q2
      · have el : f_R_requestLimitOf P (nI p) = P 1 p := by
          unfold f_R_requestLimitOf
          rw [if_neg (isPerson_nI hp'), nI_clamp (by omega)]
        rw [if_pos q2, if_pos rfl, if_pos q2, el]
        rcases Classical.em (P 1 p ≤ f_M_living c V (nI p)) with q3 | q3
        · rw [if_pos q3, if_pos q3]; exact Ok.mk h
        · rw [if_neg q3, if_neg q3]
          unfold f_Q_add f_Q_isFull
          rcases Classical.em (nI c < 300) with q4 | q4
          · have hc3 : c < 300 := by
              have e : (300 : Int32) = nI 300 := by decide
              rw [e, nI_ltI (by omega) (by omega)] at q4
              exact q4
            rw [if_pos q4, if_pos rfl, if_pos rfl, if_neg (fun z => (i32_300 hc).mp z q4), i32_as, nI_1]
            dsimp only
            have vn : ∀ (b y : Nat), y ≠ c → up2 (up2 (up2 (up2 (up2 (up2 V 0 c (nI p)) 1 c (nI j)) 2 c 0) 3 c t) 4 c (-1)) 5 c (-1) b y = V b y := fun b y hy => by
              rw [up2_ni _ _ _ _ _ _ hy, up2_ni _ _ _ _ _ _ hy, up2_ni _ _ _ _ _ _ hy, up2_ni _ _ _ _ _ _ hy, up2_ni _ _ _ _ _ _ hy, up2_ni _ _ _ _ _ _ hy]
            have v2 : up2 (up2 (up2 (up2 (up2 (up2 V 0 c (nI p)) 1 c (nI j)) 2 c 0) 3 c t) 4 c (-1)) 5 c (-1) 2 c = 0 := by
              rw [up2_ne _ _ _ _ _ _ (by decide), up2_ne _ _ _ _ _ _ (by decide), up2_ne _ _ _ _ _ _ (by decide), up2_at]
            have v0 : up2 (up2 (up2 (up2 (up2 (up2 V 0 c (nI p)) 1 c (nI j)) 2 c 0) 3 c t) 4 c (-1)) 5 c (-1) 0 c = nI p := by
              rw [up2_ne _ _ _ _ _ _ (by decide), up2_ne _ _ _ _ _ _ (by decide), up2_ne _ _ _ _ _ _ (by decide), up2_ne _ _ _ _ _ _ (by decide), up2_ne _ _ _ _ _ _ (by decide), up2_at]
            refine Ok.mk ⟨⟨hk, hn, by omega, time_0 h0 q⟩, hS, ⟨fun i => ?_, fun i hi => ?_⟩, ⟨fun y hy => ?_, fun i hi z => ?_, hU.2.2⟩, hP⟩
            · by_cases w : i = c
              · subst w; rw [v0]; exact ⟨p, hp', rfl⟩
              · rw [vn _ _ w]; exact hQ.1 i
            · by_cases w : i = c
              · subst w; rw [v2]; exact ⟨0, by omega, by decide⟩
              · rw [vn _ _ w]; exact hQ.2 i (by omega)
            · rcases hU.1 y hy with z | z | ⟨i, i1, i2, i3, i4⟩
              · exact Or.inl z
              · exact Or.inr (Or.inl z)
              · refine Or.inr (Or.inr ⟨i, by omega, i2, ?_, ?_⟩)
                · rw [vn _ _ (by omega)]; exact i3
                · rw [vn _ _ (by omega)]; exact i4
            · by_cases w : i = c
              · subst w; rw [v2] at z; exact absurd z (by decide)
              · rw [vn _ _ w] at z
                rw [vn _ _ w]
                exact hU.2.1 i (by omega) z
          · rw [if_neg q4, if_neg (show ¬ (1 : Int32) = 0 by decide), if_pos ((i32_300 hc).mpr q4)]
            exact Ok.mk h
      · rw [if_neg q2, if_neg (show ¬ (1 : Int32) = 0 by decide), if_neg q2]
        exact Ok.mk h
    · rw [if_neg q1, if_neg q1]
      exact Ok.mk h
theorem ok_restrict {nw : Int32} {k n c : Nat} {Z P U V PM : N2} (h : Rel nw k n c Z P U V PM) (u x : Int32) : Ok k (f_X_restrict nw n c Z P U V u x) (f_M_restrict nw n c Z PM U V u x) := by
  have h' := h
  obtain ⟨⟨hk, hn, hc, h0⟩, hS, hQ, hU, hP⟩ := h'
  unfold f_X_restrict f_M_restrict
  rw [isUnitM, in_eq]
  rcases Classical.em (f_isUnit u = 0) with hp | hp
  · rw [if_pos hp, if_pos hp]; exact Ok.mk h
  rw [if_neg hp, if_neg hp]
  rcases Classical.em (f_isWithin x 0 3 = 0) with q | q
  · rw [if_pos q, if_pos q]; exact Ok.mk h
  rw [if_neg q, if_neg q]
  obtain ⟨j, hj, rfl⟩ := unit_nI hp
  rw [setRestriction_nI hj, nI_clamp (by omega), restr_L hc nw n Z P PM _ hj x hP.1 (up2_at _ _ _ _) c 0 0 V (by omega) hQ.1]
  unfold f_X_withdrawFromLowRights
  obtain ⟨w0, w2⟩ := with_L hc P (up2 U 2 j x) (nI j) 300 0 0 V (by omega)
  rw [Nat.sub_zero]
  refine Ok.mk ⟨⟨hk, hn, hc, h0⟩, hS, RQ_upd hQ (fun i => (w0 i).1) (fun i => ?_), ⟨fun y hy => ?_, fun i hi z => ?_, fun y hy => ?_⟩, hP⟩
  · rcases w2 i with z | z
    · exact Or.inl z
    · exact Or.inr ⟨4, by omega, by rw [z.2]; decide⟩
  · rw [up2_ne _ _ _ _ _ _ (by decide), up2_ne _ _ _ _ _ _ (by decide)]
    rcases hU.1 y hy with z | z | ⟨i, i1, i2, i3, i4⟩
    · exact Or.inl z
    · exact Or.inr (Or.inl z)
    · refine Or.inr (Or.inr ⟨i, by omega, i2, (w0 i).2.trans i3, ?_⟩)
      rcases w2 i with z | z
      · rw [z]; exact i4
      · rw [z.1] at i4
        rcases i4 with ⟨-, i4⟩ | ⟨-, i4⟩
        · exact absurd i4 (by decide)
        · exact absurd i4 (by decide)
  · have z2 : V 2 i = 2 := by
      rcases w2 i with y | y
      · rw [← y]; exact z
      · rw [y.2] at z; exact absurd z (by decide)
    obtain ⟨y, y0, y1, y2, y3⟩ := hU.2.1 i hi z2
    exact ⟨y, y0, (w0 i).2.trans y1, by rw [up2_ne _ _ _ _ _ _ (by decide)]; exact y2, by rw [up2_ne _ _ _ _ _ _ (by decide)]; exact y3⟩
  · rw [up2_ne _ _ _ _ _ _ (by decide)]
    exact hU.2.2 y hy
theorem ok_close {nw : Int32} {k n c : Nat} {Z P U V PM : N2} (h : Rel nw k n c Z P U V PM) (t : Int32) : Ok k (f_X_close nw n c Z P U V t) (f_M_close nw k n c Z PM U V t) := by
  have h' := h
  obtain ⟨⟨hk, hn, hc, h0⟩, hS, hQ, hU, hP⟩ := h'
  have he : f_M_isNow nw t = f_X_isTime nw t := rfl
  unfold f_X_close f_M_close
  rw [he]
  rcases Classical.em (f_X_isTime nw t = 0) with q | q
  · rw [if_pos q, if_pos q]; exact Ok.mk h
  rw [if_neg q, if_neg q]
  have hI : ∀ u, 0 ≤ u → u < 80 → U 0 u = 0 → U 3 u = -1 := fun u _ hu z => by
    rcases hU.1 u hu with y | y | ⟨i, i1, i2, i3, ⟨y, -⟩ | ⟨y, -⟩⟩
    · exact y.2
    · rw [z] at y; exact absurd y (by decide)
    · rw [z] at y; exact absurd y (by decide)
    · rw [z] at y; exact absurd y (by decide)
  have hV : ∀ i, 0 ≤ i → i < c → ∃ j, j < 5 ∧ V 2 i = nI j := fun i _ hi => hQ.2 i hi
  have z3 := close3_L c PM t (f_H_storeAll U).1 Z (f_H_storeAll U).2 (f_Q_endAll c V t) k 0
  rw [fill2_0, Nat.zero_add, fill_seats hk Z hS.1] at z3
  rw [close1_L k c Z PM V t 80 0 0 U (by omega) hI, close2_L hc k Z PM t c 0 _ _ V (by omega) hV]
  have z4 : f_M_close_L3 c PM t k 0 (f_H_storeAll_L 80 0 0 U).1 Z (f_H_storeAll_L 80 0 0 U).2 (f_Q_endAll_L c t c 0 V) = ((f_H_storeAll U).1, 0, t, 0, nI c, fill2 Z 0 20 (-1), PM, (f_H_storeAll U).2, f_Q_endAll c V t) := z3
  rw [z4]
  have e0 : (0 : Int32) = nI 0 := by decide
  have s0 := store_L 80 0 0 U (by omega) hI
  obtain ⟨e1, e2, e3⟩ := end_L hc t c 0 V (by omega) hV
  have g : Rel t k 0 c (fill2 Z 0 20 (-1)) P (f_H_storeAll U).2 (f_Q_endAll c V t) PM := by
    refine ⟨⟨hk, by omega, hc, time_0 h0 q⟩, ⟨fun s a1 a2 => ?_, fun i hi => by omega, fun i i' hii hi' => by omega, fun i s hi => by omega⟩, ⟨fun i => ?_, fun i hi => ?_⟩, ⟨fun y hy => Or.inl ((s0 y).1 (by omega) hy), fun i hi z => ?_, fun y hy => ?_⟩, hP⟩
    · rw [fill2_eq, if_pos ⟨rfl, a2⟩]
    · have := (e1 i).1
      show ∃ j, j < 60 ∧ f_Q_endAll_L c t c 0 V 0 i = nI j
      rw [this]
      exact hQ.1 i
    · show ∃ j, j < 5 ∧ f_Q_endAll_L c t c 0 V 2 i = nI j
      rcases e3 i (by omega) hi with z | z
      · exact ⟨3, by omega, by rw [z]; decide⟩
      · exact ⟨4, by omega, by rw [z]; decide⟩
    · have z' : f_Q_endAll_L c t c 0 V 2 i = 2 := z
      rcases e3 i (by omega) hi with w | w
      · rw [w] at z'; exact absurd z' (by decide)
      · rw [w] at z'; exact absurd z' (by decide)
    · show ∃ j, j < 4 ∧ (f_H_storeAll_L 80 0 0 U).2 1 y = nI j
      rw [(s0 y).2.2]
      exact hU.2.2 y hy
  unfold f_S_clear
  exact ⟨_, _, 0, 0, c, _, _, _, _, PM, rfl, rfl, g⟩
