/-! copying, and what is only read -/
theorem day_ne {t : Int32} (h0 : 0 ≤ t) : ¬ t / 86400 = -1 := by
  obtain ⟨a, ha, rfl⟩ := nI_of (Int32.not_lt.mpr h0)
  have e : (86400 : Int32) = nI 86400 := by decide
  rw [e, pk_div ha (by omega) (by omega)]
  exact nI_ne_m1 (Nat.lt_of_le_of_lt (Nat.div_le_self _ _) ha)
theorem left_iff {a b g : Nat} (ha : a ≤ 500) (hb : b ≤ 500) (hg : g ≤ 500) : nI g ≤ nI b - nI a ↔ nI a + nI g ≤ nI b := by
  rw [nI_add, nI_leI (by omega) (by omega), Int32.le_iff_toInt_le, Int32.toInt_sub, nI_toInt (by omega), nI_toInt (by omega), nI_toInt (by omega)]
  rw [Int.bmod_eq_of_le (by omega) (by omega)]
  omega
theorem RP_copy {P PM : N2} (h : RP P PM) {q : Nat} (hq : q < 60) (d : Int32) {s : Nat} (hs : s ≤ 500) : RP (up2 (up2 P 4 q (nI s)) 3 q d) (up2 (up2 PM 4 q (nI s)) 3 q d) := by
  obtain ⟨p0, p1, p2, p4, p3, pb⟩ := h
  refine ⟨?_, ?_, ?_, ?_, fun p hp => ?_, fun p hp => ⟨?_, ?_⟩⟩
  · funext y; simp only [up2_eq, p0]
  · funext y; simp only [up2_eq, p1]
  · funext y; simp only [up2_eq, p2]
  · funext y; simp only [up2_eq, p4]
  · by_cases z : p = q
    · subst z
      exact Or.inl (by rw [up2_at, up2_at])
    · rw [up2_ni _ _ _ _ _ _ z, up2_ni _ _ _ _ _ _ z, up2_ni _ _ _ _ _ _ z, up2_ni _ _ _ _ _ _ z, up2_ni _ _ _ _ _ _ z, up2_ni _ _ _ _ _ _ z]
      exact p3 p hp
  · rw [up2_ne _ _ _ _ _ _ (by decide), up2_ne _ _ _ _ _ _ (by decide)]
    exact (pb p hp).1
  · rw [up2_ne _ _ _ _ _ _ (by decide), up2_eq]
    split
    · exact ⟨s, hs, rfl⟩
    · exact (pb p hp).2
theorem ok_copy {nw : Int32} {k n c : Nat} {Z P U V PM : N2} (h : Rel nw k n c Z P U V PM) (u pages t : Int32) : Ok k (f_X_copy nw n c Z P U V u pages t) (f_M_copy nw n c Z PM U V u pages t) := by
  have h' := h
  obtain ⟨⟨hk, hn, hc, h0⟩, hS, hQ, hU, hP⟩ := h'
  have he : f_M_isNow nw t = f_X_isTime nw t := rfl
  unfold f_X_copy f_M_copy
  rw [isUnitM, in_eq, he]
  rcases Classical.em (f_isUnit u = 0) with hp | hp
  · rw [if_pos hp, if_pos hp]; exact Ok.mk h
  rw [if_neg hp, if_neg hp]
  rcases Classical.em (f_isWithin pages 1 500 = 0) with q0 | q0
  · rw [if_pos q0, if_pos q0]; exact Ok.mk h
  rw [if_neg q0, if_neg q0]
  rcases Classical.em (f_X_isTime nw t = 0) with q | q
  · rw [if_pos q, if_pos q]; exact Ok.mk h
  rw [if_neg q, if_neg q]
  obtain ⟨j, hj, rfl⟩ := unit_nI hp
  rw [placeOf_nI hj, requestOf_nI hj, conditionOf_nI hj, nI_clamp (show j < 2 ^ 31 by omega)]
  rcases Classical.em (U 0 j = 2) with q1 | q1
  · rw [if_pos q1, if_pos q1]
    obtain ⟨i, hi, e3, e1, e2⟩ := RU_at hU hj (Or.inr q1)
    obtain ⟨p, hp', ep⟩ := hQ.1 i
    rw [e3, personOf_nI hc hi, nI_clamp (show i < 2 ^ 31 by omega), ep, nI_clamp (show p < 2 ^ 31 by omega)]
    rcases Classical.em (U 1 j ≤ 1) with q2 | q2
    · rw [if_pos q2, if_pos q2]
      have h0t := time_0 h0 q
      have hP' := hP
      obtain ⟨p0, p1, p2, p4, p3, pb⟩ := hP'
      obtain ⟨⟨b, hb, eb⟩, ⟨a4, ha4, ea4⟩⟩ := pb p hp'
      obtain ⟨g1, g2⟩ := isWithin_nz q0
      obtain ⟨g, hg, rfl⟩ := nI_of2 (M := 500) (n := 500) (by decide) (Int32.not_lt.mpr (Int32.le_trans (by decide) g1)) g2
      have key : ∀ a : Nat, a ≤ 500 → f_R_copiedOn P (nI p) (t / 86400) = nI a → Ok k (if nI g ≤ f_R_pagesLeft P (nI p) (t / 86400) then (f_R_pagesLeft (f_R_addCopied P (nI p) (t / 86400) (nI g)) (nI p) (t / 86400), t, nI n, nI c, Z, f_R_addCopied P (nI p) (t / 86400) (nI g), U, V) else (-4, nw, nI n, nI c, Z, P, U, V)) (if nI a + nI g ≤ PM 2 p then (PM 2 p - (up2 PM 4 p (nI a + nI g)) 4 p, 0, t, nI n, nI c, Z, up2 (up2 PM 4 p (nI a + nI g)) 3 p (t / 86400), U, V) else (-4, 0, nw, nI n, nI c, Z, PM, U, V)) := by
        intro a ha ea
        unfold f_R_pagesLeft f_R_addCopied
        rw [if_neg (isPerson_nI hp'), if_neg (isPerson_nI hp'), if_neg (isPerson_nI hp'), nI_clamp (show p < 2 ^ 31 by omega), ea, p2, eb, up2_at]
        rcases Classical.em (nI g ≤ nI b - nI a) with z | z
        · have z2 := (left_iff ha hb hg).mp z
          rw [if_pos z, if_pos z2, up2_ne _ _ _ _ 2 _ (by decide), up2_ne _ _ _ _ 2 _ (by decide), eb]
          unfold f_R_copiedOn
          rw [if_neg (isPerson_nI hp'), nI_clamp (show p < 2 ^ 31 by omega), up2_at, if_pos rfl, up2_ne _ _ _ _ _ _ (by decide), up2_at]
          rw [nI_add] at z2 ⊢
          rw [nI_leI (by omega) (by omega)] at z2
          exact Ok.mk ⟨⟨hk, hn, hc, h0t⟩, hS, hQ, hU, RP_copy hP hp' _ (by omega)⟩
        · rw [if_neg z, if_neg (fun w => z ((left_iff ha hb hg).mpr w))]
          exact Ok.mk h
      have hz : (0 : Int32) = nI 0 := by decide
      rcases p3 p hp' with w | ⟨w, w4⟩
      · rcases Classical.em (P 3 p = t / 86400) with v | v
        · rw [if_pos (w.trans v), p4, ea4]
          refine key a4 ha4 ?_
          unfold f_R_copiedOn
          rw [if_neg (isPerson_nI hp'), nI_clamp (by omega), if_pos v, ea4]
        · rw [if_neg (fun y => v (w.symm.trans y))]
          refine key 0 (by omega) ?_
          unfold f_R_copiedOn
          rw [if_neg (isPerson_nI hp'), nI_clamp (by omega), if_neg v, hz]
      · rw [if_neg (show ¬ PM 3 p = t / 86400 from fun y => day_ne h0t (y.symm.trans w))]
        refine key 0 (by omega) ?_
        unfold f_R_copiedOn
        rw [if_neg (isPerson_nI hp'), nI_clamp (by omega), w4, ← hz]
        split <;> rfl
    · rw [if_neg q2, if_neg q2]
      exact Ok.mk h
  · rw [if_neg q1, if_neg q1]
    exact Ok.mk h
theorem unit_eq {nw : Int32} {k n c : Nat} {Z P U V PM : N2} (h : Rel nw k n c Z P U V PM) (u w : Int32) : f_M_unit nw n c Z PM U V u w = (f_X_unit c U V u w, 0, nw, nI n, nI c, Z, PM, U, V) := by
  obtain ⟨⟨hk, hn, hc, h0⟩, hS, hQ, hU, hP⟩ := h
  unfold f_X_unit f_M_unit
  rw [isUnitM, in_eq]
  rcases Classical.em (f_isUnit u = 0) with hp | hp
  · rw [if_pos hp, if_pos hp]
  rw [if_neg hp, if_neg hp]
  obtain ⟨j, hj, rfl⟩ := unit_nI hp
  rw [placeOf_nI hj, requestOf_nI hj, conditionOf_nI hj, restrictionOf_nI hj, nI_clamp (by omega)]
  rcases Classical.em (f_isWithin w 0 4 = 0) with q | q
  · rw [if_pos q]
    have ne : ∀ v : Int32, ¬ f_isWithin v 0 4 = 0 → ¬ w = v := fun v hv z => hv (by rw [← z]; exact q)
    rw [if_neg (ne 0 (by decide)), if_neg (ne 1 (by decide)), if_neg (ne 2 (by decide)), if_neg (ne 3 (by decide)), if_neg (ne 4 (by decide))]
  · rw [if_neg q]
    obtain ⟨g1, g2⟩ := isWithin_nz q
    obtain ⟨b, hb, eb⟩ := nI_of2 (M := 4) (n := 4) (by decide) (Int32.not_lt.mpr g1) g2
    rcases five ⟨b, by omega, eb⟩ with z | z | z | z | z <;> subst z
    · rfl
    · rfl
    · rfl
    · rfl
    · exact countOpen_L hc nw n Z PM U V (nI j) 4 c 0 0 (by omega)
theorem person_eq {nw : Int32} {k n c : Nat} {Z P U V PM : N2} (h : Rel nw k n c Z P U V PM) (u w : Int32) : f_M_person nw k n c Z PM U V u w = (f_X_person k n c Z P V u w, 0, nw, nI n, nI c, Z, PM, U, V) := by
  obtain ⟨⟨hk, hn, hc, h0⟩, hS, hQ, hU, hP⟩ := h
  unfold f_X_person f_M_person
  rw [isPersonM]
  rcases Classical.em (f_isPerson u = 0) with hp | hp
  · rw [if_pos hp, if_pos hp]
  rw [if_neg hp, if_neg hp]
  obtain ⟨j, hj, rfl⟩ := person_nI hp
  have e4 : f_R_copiedLatelyBy P (nI j) = PM 4 j := by
    unfold f_R_copiedLatelyBy
    rw [if_neg hp, nI_clamp (by omega), hP.2.2.2.1]
  rw [seatOf_nI hj, row_eq, living_eq hc, has_eq hc hU, e4, nI_clamp (by omega)]
  repeat' split
  all_goals first | rfl | contradiction
theorem req_thr {c : Nat} (nw : Int32) (n : Nat) (Z P U V : N2) (i w : Int32) (h : f_Q_has c i = 0 ∨ f_isWithin w 0 5 = 0) : f_M_request nw n c Z P U V i w = (0, 1, nw, nI n, nI c, Z, P, U, V) := by
  unfold f_M_request
  rw [in_eq, in_eq]
  have e : f_isWithin i 0 (nI c - 1) = f_Q_has c i := rfl
  rw [e]
  rcases Classical.em (f_Q_has c i = 0) with q | q
  · rw [if_pos q]
  · rw [if_neg q]
    rcases h with z | z
    · exact absurd z q
    · rw [if_pos z]
theorem req_ret {c : Nat} (hc : c ≤ 300) (nw : Int32) (n : Nat) (Z P U V : N2) (i w : Int32) (h1 : ¬ f_Q_has c i = 0) (hw : w = 0 ∨ w = 1 ∨ w = 2 ∨ w = 3 ∨ w = 4 ∨ w = 5) : f_M_request nw n c Z P U V i w = (f_X_request c V i w, 0, nw, nI n, nI c, Z, P, U, V) := by
  unfold f_M_request f_X_request
  rw [in_eq, in_eq]
  have e : f_isWithin i 0 (nI c - 1) = f_Q_has c i := rfl
  rw [e, if_neg h1]
  unfold f_Q_personOf f_Q_unitOf f_Q_stateOf f_Q_askedAt f_Q_handedOutAt f_Q_backAt
  rw [if_neg h1, if_neg h1, if_neg h1, if_neg h1, if_neg h1, if_neg h1]
  rcases hw with z | z | z | z | z | z <;> subst z <;> rfl
theorem req_w {w : Int32} (h : ¬ f_isWithin w 0 5 = 0) : w = 0 ∨ w = 1 ∨ w = 2 ∨ w = 3 ∨ w = 4 ∨ w = 5 := by
  obtain ⟨g1, g2⟩ := isWithin_nz h
  obtain ⟨b, hb, rfl⟩ := nI_of2 (M := 5) (n := 5) (by decide) (Int32.not_lt.mpr g1) g2
  rcases (show b = 0 ∨ b = 1 ∨ b = 2 ∨ b = 3 ∨ b = 4 ∨ b = 5 by omega) with rfl | rfl | rfl | rfl | rfl | rfl <;> decide
theorem req_nw {w : Int32} (h : f_isWithin w 0 5 = 0) : ¬ w = 0 ∧ ¬ w = 1 ∧ ¬ w = 2 ∧ ¬ w = 3 ∧ ¬ w = 4 ∧ ¬ w = 5 := by
  have ne : ∀ v : Int32, ¬ f_isWithin v 0 5 = 0 → ¬ w = v := fun v hv z => hv (by rw [← z]; exact h)
  exact ⟨ne 0 (by decide), ne 1 (by decide), ne 2 (by decide), ne 3 (by decide), ne 4 (by decide), ne 5 (by decide)⟩
theorem waits_eq {c : Nat} (hc : c ≤ 300) (nw : Int32) (n : Nat) (Z P U V : N2) (u i : Int32) : f_M_waits nw n c Z P U V u i = if f_Q_openOf c V u i = -1 then (0, 1, nw, nI n, nI c, Z, P, U, V) else (f_X_waits c V u i, 0, nw, nI n, nI c, Z, P, U, V) := by
  have := waits_L hc nw n Z P U V u i c 0 0 (by omega)
  rw [Int32.sub_zero] at this
  exact this
/-! what a model's call asks of the state -/
theorem Rel.hU {nw : Int32} {k n c : Nat} {Z P U V PM : N2} (h : Rel nw k n c Z P U V PM) : ∀ u, u < 80 → (U 0 u = 1 ∨ U 0 u = 2) → vp_in (U 3 u) 300 := by
  obtain ⟨⟨hk, hn, hc, h0⟩, hS, hQ, hU, hP⟩ := h
  intro u hu q
  obtain ⟨i, hi, e3, -⟩ := RU_at hU hu q
  rw [e3]
  exact vp_in_nI (by omega) (by omega)
theorem Rel.hV {nw : Int32} {k n c : Nat} {Z P U V PM : N2} (h : Rel nw k n c Z P U V PM) : ∀ i, vp_in (V 0 i) 60 := by
  intro i
  obtain ⟨q, hq, e⟩ := h.2.2.1.1 i
  rw [e]
  exact vp_in_nI (by omega) (by omega)
theorem Rel.h60 {nw : Int32} {k n c : Nat} {Z P U V PM : N2} (h : Rel nw k n c Z P U V PM) (pr : Int32) : ¬ f_M_isPerson pr = 0 → f_M_waitOf n Z pr < 0 → n < 60 := by
  obtain ⟨⟨hk, hn, hc, h0⟩, hS, hQ, hU, hP⟩ := h
  intro hp hw
  rw [isPersonM] at hp
  obtain ⟨j, hj, rfl⟩ := person_nI hp
  rcases row_cases n Z (nI j) with ⟨e2, hr⟩ | ⟨q, hq, e2, eq⟩
  · exact row60 hS hn hj hr
  · rw [e2] at hw
    exact absurd hw (nI_pos (by omega))
/-! the beginning -/
theorem Zc_eq : Zc = Zi := by
  funext b y
  show _ = fill2 zero2 0 20 (-1) b y
  rw [fill2_eq]
  match b with
  | 0 => simp only [Zc, fillF, true_and]; rfl
  | b + 1 => rw [if_neg (by omega)]; rfl
theorem Uc_eq : Uc = Ui := by
  funext b y
  show _ = fill2 zero2 3 80 (-1) b y
  rw [fill2_eq]
  match b with
  | 0 => rw [if_neg (by omega)]; rfl
  | 1 => rw [if_neg (by omega)]; rfl
  | 2 => rw [if_neg (by omega)]; rfl
  | 3 => simp only [Uc, fillF, true_and]; rfl
  | b + 4 => rw [if_neg (by omega)]; rfl
theorem seats_eq (x : Int32) : ∃ k : Nat, k ≤ 20 ∧ cSeats x = nI k ∧ mSeats x = nI k := by
  have e20 : nI 20 = (20 : Int32) := by decide
  have e0 : nI 0 = (0 : Int32) := by decide
  rcases Classical.em (x < 0) with q | q
  · refine ⟨0, by omega, ?_, ?_⟩
    · unfold cSeats
      have : x < 20 := Int32.lt_trans q (by decide)
      rw [if_pos this, if_neg (Int32.not_lt.mpr (Int32.le_of_lt q)), e0]
    · unfold mSeats
      rw [if_neg (Int32.not_le.mpr q), e0]
  · obtain ⟨a, ha, rfl⟩ := nI_of q
    by_cases h : a ≤ 20
    · have hle : nI a ≤ 20 := by
        have := nI_le h (show 20 < 2 ^ 31 by omega)
        rwa [e20] at this
      refine ⟨a, h, ?_, ?_⟩
      · unfold cSeats
        by_cases h2 : a < 20
        · have hlt : nI a < 20 := by
            have := nI_lt h2 (show 20 < 2 ^ 31 by omega)
            rwa [e20] at this
          rw [if_pos hlt]
          by_cases h3 : 0 < a
          · have hp : 0 < nI a := by
              have := nI_lt h3 ha
              rwa [e0] at this
            rw [if_pos hp]
          · have : a = 0 := by omega
            subst this
            decide
        · have : a = 20 := by omega
          subst this
          decide
      · unfold mSeats
        rw [if_pos (nI_pos' ha), if_pos hle]
    · have hge : ¬ nI a < 20 := by
        have := nI_nlt (a := a) (b := 20) (by omega) ha
        rwa [e20] at this
      have hnl : ¬ nI a ≤ 20 := by
        have := nI_ge (a := 20) (b := a) (by omega) ha
        rwa [e20] at this
      refine ⟨20, by omega, ?_, ?_⟩
      · unfold cSeats
        rw [if_neg hge]
        decide
      · unfold mSeats
        rw [if_pos (nI_pos' ha), if_neg hnl, e20]
theorem Rel_0 {k : Nat} (hk : k ≤ 20) : Rel 0 k 0 0 Zc Pc0 Uc zero2 Pm := by
  rw [Zc_eq, Uc_eq]
  refine ⟨⟨hk, by omega, by omega, by decide⟩, ⟨fun s a1 a2 => ?_, fun i hi => by omega, fun i j h1 h2 => by omega, fun i s h1 => by omega⟩, ⟨fun i => ⟨0, by omega, nI_0.symm⟩, fun i hi => by omega⟩, ⟨fun u hu => Or.inl ⟨?_, ?_⟩, fun i hi => by omega, fun u hu => ⟨0, by omega, ?_⟩⟩, ⟨?_, ?_, ?_, ?_, fun p hp => Or.inr ⟨?_, ?_⟩, fun p hp => ⟨⟨20, by omega, ?_⟩, ⟨0, by omega, ?_⟩⟩⟩⟩
  · unfold Zi
    rw [fill2_eq, if_pos ⟨rfl, a2⟩]
  · unfold Ui
    rw [fill2_eq, if_neg (by omega)]; rfl
  · unfold Ui
    rw [fill2_eq, if_pos ⟨rfl, hu⟩]
  · unfold Ui
    rw [fill2_eq, if_neg (by omega)]; exact nI_0.symm
  · funext y
    unfold Pm
    rw [fill2_eq, if_neg (by omega), fill2_eq, if_neg (by omega), fill2_eq, if_neg (by omega)]; rfl
  · funext y
    unfold Pm
    rw [fill2_eq, if_neg (by omega), fill2_eq, if_neg (by omega), fill2_eq]
    simp only [Pc0, fillF, true_and]; rfl
  · funext y
    unfold Pm
    rw [fill2_eq, if_neg (by omega), fill2_eq, fill2_eq]
    have e : zero2 2 y = 0 := rfl
    simp only [Pc0, fillF, true_and, e, show ¬ (2 = 1) by omega, false_and, if_false]
  · funext y
    unfold Pm
    rw [fill2_eq, if_neg (by omega), fill2_eq, if_neg (by omega), fill2_eq, if_neg (by omega)]; rfl
  · unfold Pm
    rw [fill2_eq, if_pos ⟨rfl, hp⟩]
  · rfl
  · simp only [Pc0, fillF, if_pos hp]; decide
  · exact nI_0.symm
