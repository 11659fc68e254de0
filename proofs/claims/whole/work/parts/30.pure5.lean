/-! the two answers, call by call -/
theorem pres_eq {j : Nat} (hj : j < 60) (k n : Nat) (Z : N2) : f_S_isPresent k n Z (nI j) = if f_M_seatOf k Z (nI j) = -1 then (if f_M_waitOf n Z (nI j) = -1 then 0 else 1) else 1 := by
  unfold f_S_isPresent f_S_isSeated
  rw [seatOf_nI hj, row_eq]
  rcases Classical.em (f_M_seatOf k Z (nI j) = -1) with q | q
  · rw [if_pos q, if_pos q, if_pos rfl]
  · rw [if_neg q, if_neg q, if_neg (by decide)]
theorem time_le {nw t : Int32} (h : ¬ f_X_isTime nw t = 0) : nw ≤ t ∧ t ≤ 1000000000 := isWithin_nz h
theorem time_0 {nw t : Int32} (h0 : 0 ≤ nw) (h : ¬ f_X_isTime nw t = 0) : 0 ≤ t := Int32.le_trans h0 (time_le h).1
theorem RS_drop {k n j : Nat} {Z : N2} (hj : j < n) (hn : n ≤ 60) (h1 : ∀ s, k ≤ s → s < 20 → Z 0 s = -1) (h2 : ∀ i, i < n → ∃ j, j < 60 ∧ Z 1 i = nI j) (h3 : ∀ i j, i < j → j < n → Z 1 i ≠ Z 1 j) (h4 : ∀ i s, i < n → i ≠ j → s < k → Z 1 i ≠ Z 0 s) : RS k (n - 1) (f_M_leaveRow n Z (nI j)).2 := by
  obtain ⟨-, e0, e1⟩ := lr_row hj hn Z
  refine ⟨fun s a1 a2 => by rw [e0]; exact h1 s a1 a2, fun i hi => ?_, fun i i' hii hi' => ?_, fun i s hi hs => ?_⟩
  · rw [e1]
    split
    · exact h2 _ (by omega)
    · exact h2 _ (by omega)
  · rw [e1, e1]
    split
    · split
      · exact h3 _ _ (by omega) (by omega)
      · exact h3 _ _ (by omega) (by omega)
    · split
      · exact h3 _ _ (by omega) (by omega)
      · exact h3 _ _ (by omega) (by omega)
  · rw [e1, e0]
    split
    · exact h4 _ _ (by omega) (by omega) hs
    · exact h4 _ _ (by omega) (by omega) hs
theorem ok_come {nw : Int32} {k n c : Nat} {Z P U V PM : N2} (h : Rel nw k n c Z P U V PM) (pr : Int32) : Ok k (f_X_come nw k n c Z P U V pr) (f_M_come nw k n c Z PM U V pr) := by
  have h' := h
  obtain ⟨⟨hk, hn, hc, h0⟩, hS, hQ, hU, hP⟩ := h'
  unfold f_X_come f_M_come
  rw [isPersonM]
  rcases Classical.em (f_isPerson pr = 0) with hp | hp
  · rw [if_pos hp, if_pos hp]; exact Ok.mk h
  rw [if_neg hp, if_neg hp]
  obtain ⟨j, hj, rfl⟩ := person_nI hp
  rw [pres_eq hj]
  rcases seat_cases k Z (nI j) with ⟨e, hs⟩ | ⟨s, hs, e, es⟩
  · rw [e, if_pos rfl, if_neg (show ¬ (0 : Int32) ≤ -1 by decide)]
    rcases row_cases n Z (nI j) with ⟨e2, hr⟩ | ⟨q, hq, e2, eq⟩
    · rw [e2, if_pos rfl, if_pos rfl, if_pos (show (-1 : Int32) < 0 by decide)]
      unfold f_S_admit
      rw [seat_eq]
      obtain ⟨h1, h2, h3, h4⟩ := hS
      rcases seat_cases k Z (-1) with ⟨e3, h3'⟩ | ⟨s, hs3, e3, es3⟩
      · have hn6 := row60 ⟨h1, h2, h3, h4⟩ hn hj hr
        have h60 : ¬ (60 : Int32) ≤ nI n := by
          have : (60 : Int32) = nI 60 := by decide
          rw [this]; exact nI_ge hn6 (by omega)
        rw [e3, if_pos rfl, if_neg h60, if_pos (show (-1 : Int32) < 0 by decide), i32_as, nI_1]
        dsimp only
        refine Ok.mk ⟨⟨hk, by omega, hc, h0⟩, ⟨fun s a1 a2 => ?_, fun i hi => ?_, fun i i' hii hi' => ?_, fun i s hi hs' => ?_⟩, hQ, hU, hP⟩
        · rw [up2_ne _ _ _ _ _ _ (by decide)]; exact h1 s a1 a2
        · rw [up2_eq]
          split
          · exact ⟨j, hj, rfl⟩
          · exact h2 i (by omega)
        · rw [up2_ni _ _ _ _ _ _ (show i ≠ n by omega), up2_eq]
          split
          · exact hr i (by omega)
          · exact h3 i i' hii (by omega)
        · rw [up2_ne _ _ _ _ 0 _ (by decide), up2_eq]
          split
          · exact fun z => hs s hs' z.symm
          · exact h4 i s (by omega) hs'
      · rw [e3, if_neg (nI_ne_m1 (by omega)), if_neg (nI_pos (by omega)), nI_clamp (by omega)]
        dsimp only
        refine Ok.mk ⟨⟨hk, by omega, hc, h0⟩, ⟨fun s a1 a2 => ?_, fun i hi => ?_, fun i i' hii hi' => ?_, fun i s' hi hs' => ?_⟩, hQ, hU, hP⟩
        · rw [up2_ni _ _ _ _ _ _ (by omega)]; exact h1 _ a1 a2
        · rw [up2_ne _ _ _ _ _ _ (by decide)]; exact h2 i hi
        · rw [up2_ne _ _ _ _ _ _ (by decide), up2_ne _ _ _ _ _ _ (by decide)]; exact h3 i i' hii hi'
        · rw [up2_ne _ _ _ _ 1 _ (by decide), up2_eq]
          split
          · exact hr i hi
          · exact h4 i s' hi hs'
    · rw [e2, if_neg (nI_ne_m1 (by omega)), if_neg (show ¬ (1 : Int32) = 0 by decide), if_neg (nI_pos (by omega))]
      exact Ok.mk h
  · rw [e, if_neg (nI_ne_m1 (by omega)), if_neg (show ¬ (1 : Int32) = 0 by decide), if_pos (nI_pos' (by omega))]
    exact Ok.mk h
theorem ok_leave {nw : Int32} {k n c : Nat} {Z P U V PM : N2} (h : Rel nw k n c Z P U V PM) (pr : Int32) : Ok k (f_X_leave nw k n c Z P U V pr) (f_M_leave nw k n c Z PM U V pr) := by
  have h' := h
  obtain ⟨⟨hk, hn, hc, h0⟩, hS, hQ, hU, hP⟩ := h'
  unfold f_X_leave f_M_leave
  rw [isPersonM]
  rcases Classical.em (f_isPerson pr = 0) with hp | hp
  · rw [if_pos hp, if_pos hp]; exact Ok.mk h
  rw [if_neg hp, if_neg hp]
  obtain ⟨j, hj, rfl⟩ := person_nI hp
  rw [pres_eq hj, has_eq hc hU]
  obtain ⟨h1, h2, h3, h4⟩ := hS
  rcases seat_cases k Z (nI j) with ⟨e, hs⟩ | ⟨s, hs, e, es⟩
  · rw [e, if_pos rfl, if_neg (show ¬ (0 : Int32) ≤ -1 by decide)]
    rcases row_cases n Z (nI j) with ⟨e2, hr⟩ | ⟨q, hq, e2, eq⟩
    · rw [e2, if_pos rfl, if_pos rfl, if_pos (show (-1 : Int32) < 0 by decide)]
      exact Ok.mk h
    · rw [e2, if_neg (nI_ne_m1 (by omega)), if_neg (show ¬ (1 : Int32) = 0 by decide), if_neg (nI_pos (by omega))]
      rcases Classical.em (f_Q_countHandedOut c V (nI j) ≤ 0) with z | z
      · rw [if_pos z, if_pos z]
        unfold f_S_release
        rw [seatOf_nI hj, e, if_pos rfl, row_eq, e2, drop_eq hn hq, (lr_row hq hn Z).1]
        dsimp only
        exact Ok.mk ⟨⟨hk, by omega, hc, h0⟩, RS_drop hq hn h1 h2 h3 (fun i s hi _ hs' => h4 i s hi hs'), hQ, hU, hP⟩
      · rw [if_neg z, if_neg z]
        exact Ok.mk h
  · rw [e, if_neg (nI_ne_m1 (by omega)), if_neg (show ¬ (1 : Int32) = 0 by decide), if_pos (nI_pos' (by omega))]
    rcases Classical.em (f_Q_countHandedOut c V (nI j) ≤ 0) with z | z
    · rw [if_pos z, if_pos z]
      unfold f_S_release
      rw [seatOf_nI hj, e, if_neg (nI_ne_m1 (by omega)), nI_clamp (by omega)]
      rcases row_cases n Z (nI j) with ⟨e2, hr⟩ | ⟨q, hq, e2, eq⟩
      · rw [e2, if_pos (show (-1 : Int32) < 0 by decide)]
        rcases Nat.eq_zero_or_pos n with n0 | n0
        · subst n0
          rw [if_pos nI_0, if_pos (show nI 0 ≤ 0 by decide), up2_at, if_neg (show ¬ (0 : Int32) ≤ -1 by decide)]
          dsimp only
          refine Ok.mk ⟨⟨hk, by omega, hc, h0⟩, ⟨fun s' a1 a2 => ?_, fun i hi => by omega, fun i i' hii hi' => by omega, fun i s' hi hs' => by omega⟩, hQ, hU, hP⟩
          rw [up2_ni _ _ _ _ _ _ (by omega)]; exact h1 _ a1 a2
        · obtain ⟨q, hq, eq⟩ := h2 0 n0
          have ec : (0 : Int32) = nI 0 := by decide
          have dd := drop_eq hn n0 (up2 Z 0 s (Z 1 0))
          obtain ⟨l1, l2, -⟩ := lr_row n0 hn (up2 Z 0 s (Z 1 0))
          rw [← ec] at dd l1 l2
          rw [if_neg (nI_ne0 n0 (by omega)), if_neg (nI_nle n0 (by omega)), dd, l1, l2, up2_at]
          rw [if_pos (show (0 : Int32) ≤ Z 1 0 by rw [eq]; exact nI_pos' (by omega))]
          dsimp only
          refine Ok.mk ⟨⟨hk, by omega, hc, h0⟩, ?_, hQ, hU, hP⟩
          have := RS_drop (k := k) (Z := up2 Z 0 s (Z 1 0)) n0 hn (fun s' a1 a2 => by rw [up2_ni _ _ _ _ _ _ (by omega)]; exact h1 _ a1 a2) (fun i hi => by rw [up2_ne _ _ _ _ _ _ (by decide)]; exact h2 i hi) (fun i i' hii hi' => by rw [up2_ne _ _ _ _ _ _ (by decide), up2_ne _ _ _ _ _ _ (by decide)]; exact h3 i i' hii hi') (fun i s' hi hne hs' => by
            rw [up2_ne _ _ _ _ 1 _ (by decide), up2_eq]
            split
            · exact fun z => h3 0 i (by omega) hi z.symm
            · exact h4 i s' hi hs')
          exact this
      · exact absurd (eq.trans es.symm) (h4 q s hq hs)
    · rw [if_neg z, if_neg z]
      exact Ok.mk h
theorem ok_right {nw : Int32} {k n c : Nat} {Z P U V PM : N2} (h : Rel nw k n c Z P U V PM) (pr x : Int32) : Ok k (f_X_right nw n c Z P U V pr x) (f_M_right nw n c Z PM U V pr x) := by
  have h' := h
  obtain ⟨hb, hS, hQ, hU, hP⟩ := h'
  unfold f_X_right f_M_right
  rw [isPersonM, in_eq]
  rcases Classical.em (f_isPerson pr = 0) with hp | hp
  · rw [if_pos hp, if_pos hp]; exact Ok.mk h
  rw [if_neg hp, if_neg hp]
  rcases Classical.em (f_isWithin x 0 3 = 0) with q | q
  · rw [if_pos q, if_pos q]; exact Ok.mk h
  rw [if_neg q, if_neg q]
  obtain ⟨j, hj, rfl⟩ := person_nI hp
  unfold f_R_setRight
  rw [if_neg hp, nI_clamp (by omega)]
  obtain ⟨p0, p1, p2, p4, p3, pb⟩ := hP
  refine Ok.mk ⟨hb, hS, hQ, hU, ?_, ?_, ?_, ?_, fun p hp => ?_, fun p hp => ?_⟩
  · funext y
    rw [up2_eq, up2_eq, p0]
  · funext y
    rw [up2_ne _ _ _ _ _ _ (by decide), up2_ne _ _ _ _ _ _ (by decide), p1]
  · funext y
    rw [up2_ne _ _ _ _ _ _ (by decide), up2_ne _ _ _ _ _ _ (by decide), p2]
  · funext y
    rw [up2_ne _ _ _ _ _ _ (by decide), up2_ne _ _ _ _ _ _ (by decide), p4]
  · rw [up2_ne _ _ _ _ _ _ (by decide), up2_ne _ _ _ _ _ _ (by decide), up2_ne _ _ _ _ _ _ (by decide)]
    exact p3 p hp
  · rw [up2_ne _ _ _ _ _ _ (by decide), up2_ne _ _ _ _ _ _ (by decide)]
    exact pb p hp
theorem ok_limit {nw : Int32} {k n c : Nat} {Z P U V PM : N2} (h : Rel nw k n c Z P U V PM) (pr x y : Int32) : Ok k (f_X_limit nw n c Z P U V pr x y) (f_M_limit nw n c Z PM U V pr x y) := by
  have h' := h
  obtain ⟨hb, hS, hQ, hU, hP⟩ := h'
  unfold f_X_limit f_M_limit
  rw [isPersonM, in_eq, in_eq]
  rcases Classical.em (f_isPerson pr = 0) with hp | hp
  · rw [if_pos hp, if_pos hp]; exact Ok.mk h
  rw [if_neg hp, if_neg hp]
  rcases Classical.em (f_isWithin x 0 9 = 0) with q | q
  · rw [if_pos q, if_pos q]; exact Ok.mk h
  rw [if_neg q, if_neg q]
  rcases Classical.em (f_isWithin y 0 500 = 0) with q2 | q2
  · rw [if_pos q2, if_pos q2]; exact Ok.mk h
  rw [if_neg q2, if_neg q2]
  obtain ⟨j, hj, rfl⟩ := person_nI hp
  unfold f_R_setLimits
  rw [if_neg hp, nI_clamp (by omega)]
  obtain ⟨y0, y5⟩ := isWithin_nz q2
  obtain ⟨b, hbb, rfl⟩ := nI_of2 (M := 500) (n := 500) (by decide) (Int32.not_lt.mpr y0) y5
  obtain ⟨p0, p1, p2, p4, p3, pb⟩ := hP
  refine Ok.mk ⟨hb, hS, hQ, hU, ?_, ?_, ?_, ?_, fun p hp => ?_, fun p hp => ?_⟩
  · funext y
    rw [up2_ne _ _ _ _ _ _ (by decide), up2_ne _ _ _ _ _ _ (by decide), up2_ne _ _ _ _ _ _ (by decide), up2_ne _ _ _ _ _ _ (by decide), p0]
  · funext y
    simp only [up2_eq, p1]
  · funext y
    simp only [up2_eq, p2]
  · funext y
    rw [up2_ne _ _ _ _ _ _ (by decide), up2_ne _ _ _ _ _ _ (by decide), up2_ne _ _ _ _ _ _ (by decide), up2_ne _ _ _ _ _ _ (by decide), p4]
  · rw [up2_ne _ _ _ _ _ _ (by decide), up2_ne _ _ _ _ _ _ (by decide), up2_ne _ _ _ _ _ _ (by decide), up2_ne _ _ _ _ _ _ (by decide), up2_ne _ _ _ _ _ _ (by decide), up2_ne _ _ _ _ _ _ (by decide)]
    exact p3 p hp
  · rw [up2_ne _ _ _ _ 4 _ (by decide), up2_ne _ _ _ _ 4 _ (by decide)]
    refine ⟨?_, (pb p hp).2⟩
    rw [up2_eq]
    split
    · exact ⟨b, hbb, rfl⟩
    · rw [up2_ne _ _ _ _ _ _ (by decide)]
      exact (pb p hp).1
