theorem kl_cell : zCs R_L 18 y_L_cell b_L_cell 2 (some .int) 2 := ⟨(z_in 405 (by decide +kernel) (by decide +kernel)), (z_in 406 (by decide +kernel) (by decide +kernel)), (z_in 0 (by decide +kernel) (by decide +kernel)), (z_in 407 (by decide +kernel) (by decide +kernel)), ⟨by decide, by decide⟩, by decide +kernel⟩
theorem kn_L_8 : Cond.classLink R_L 8 R_X ∈ zB ∧ Cond.instantiable R_X 5 ∈ zB ∧ Cond.initialized R_X ∈ zB := ⟨(z_in 13 (by decide +kernel) (by decide +kernel)), (z_in 14 (by decide +kernel) (by decide +kernel)), (z_in 1 (by decide +kernel) (by decide +kernel))⟩
theorem kn_L_27 : Cond.classLink R_L 27 R_M ∈ zB ∧ Cond.instantiable R_M 22 ∈ zB ∧ Cond.initialized R_M ∈ zB := ⟨(z_in 509 (by decide +kernel) (by decide +kernel)), (z_in 510 (by decide +kernel) (by decide +kernel)), (z_in 8 (by decide +kernel) (by decide +kernel))⟩
theorem ki_L_24 : zCi R_L 24 y_X_init b_X_init 2 1 := ⟨(z_in 15 (by decide +kernel) (by decide +kernel)), (z_in 16 (by decide +kernel) (by decide +kernel)), (z_in 1 (by decide +kernel) (by decide +kernel)), (z_in 17 (by decide +kernel) (by decide +kernel)), ⟨by decide, by decide⟩, by decide +kernel⟩
theorem ki_L_29 : zCi R_L 29 y_M_init b_M_init 3 1 := ⟨(z_in 511 (by decide +kernel) (by decide +kernel)), (z_in 512 (by decide +kernel) (by decide +kernel)), (z_in 8 (by decide +kernel) (by decide +kernel)), (z_in 513 (by decide +kernel) (by decide +kernel)), ⟨by decide, by decide⟩, by decide +kernel⟩
theorem ka_long : Cond.arrayClass .long ∈ zB := (z_in 701 (by decide +kernel) (by decide +kernel))
theorem kI_H : Cond.instantiable R_H 4 ∈ zB := (z_in 74 (by decide +kernel) (by decide +kernel))
theorem kI_R : Cond.instantiable R_R 5 ∈ zB := (z_in 51 (by decide +kernel) (by decide +kernel))
theorem kI_Q : Cond.instantiable R_Q 7 ∈ zB := (z_in 94 (by decide +kernel) (by decide +kernel))
theorem kI_S : Cond.instantiable R_S 4 ∈ zB := (z_in 22 (by decide +kernel) (by decide +kernel))
theorem kI_X : Cond.instantiable R_X 5 ∈ zB := (z_in 14 (by decide +kernel) (by decide +kernel))
theorem kI_M : Cond.instantiable R_M 22 ∈ zB := (z_in 510 (by decide +kernel) (by decide +kernel))
section LE
variable {p : Program} {l : Launch} {e : Env} {s : State} {m : MethodId} {below : List Frame} {meth : Method} {c0 : Code} {D : va_G} {cI cJ : ClassId} {a bb : Nat → Nat} {o b L : Nat} {xs : Nat → Int32} {nw th : Int32} {k n c : Nat} {Z P U V PM : N2} {g : Nat → Int64} {A : Nat → Prop} {i : Int32} {ls : Array Slot} {H : Heap} {locs : List Loc} {cells slots : Nat}
theorem lw_le {L j : Nat} (hL : L ≤ 2049) (hj : j ≤ 512) (h : ¬ Int32.ofNat L - 4 < nI (1 + 4 * j)) : 1 + 4 * j + 4 ≤ L := by
  have h1 := Int32.not_lt.mp h
  have e4 : (4 : Int32).toInt = 4 := by decide
  have eL : (Int32.ofNat L).toInt = (L : Int) := nI_toInt (n := L) (by omega)
  rw [Int32.le_iff_toInt_le, Int32.toInt_sub, nI_toInt (by omega), eL, e4, Int.bmod_eq_of_le (by omega) (by omega)] at h1
  omega
theorem lw_in {L j k : Nat} (hL : L ≤ 2049) (h : 1 + 4 * j + 4 ≤ L) (hk : k < 4) : vp_in (nI (1 + 4 * j) + nI k) L := by
  rw [nI_add]
  exact vp_in_nI (by omega) (by omega)

set_option maxHeartbeats 4000000 in
set_option maxRecDepth 100000 in
theorem lw_loop (hfl : l.flags = flags0) (hZ : zTx s) (hr : meth.sig.returnType = ret) (hlk : meth.locks = false) (hL : L ≤ 2049) (E : CallFix p m c0 b_L_law 7 s #[Value.ref b] zB R_L) (hN : zN s) (hK : va_K D vwCl [(cI, .int), (cJ, .long)] s) (hX : va_X b L xs s s.heap) (hbl : b < s.heap.size) : ∀ (d j : Nat), j + d = 512 → ∀ (nw th : Int32) (n c : Nat) (Z P U V PM : N2) (g : Nat → Int64) (H : Heap) (locs : List Loc) (ls : Array Slot), Rel nw k n c Z P U V PM → zG D (fun q : Nat => s.heap.size ≤ q) s H locs (wL a bb o cI cJ nw (nI k) (nI n) (nI c) Z P U V th nw (nI k) (nI n) (nI c) Z PM U V g) → lv_has ls 7 [(0, .ref b), (1, .ref (a 0)), (2, .ref (bb 0)), (3, .ref o), (4, .int (nI (1 + 4 * j)))] → W p l e room_1 s m #[Value.ref b] below meth c0 H locs (41 + j) (5048 + 6 * j) (lw_Z below #[Value.ref b] s) (F0 m 33 ls []) := by
  have hx := E.1
  have hb := E.2.1
  have hA : ∀ q : Nat, s.heap.size ≤ q → (fun q : Nat => s.heap.size ≤ q) q := fun _ h => h
  have hAq : ∀ q : Nat, q < s.heap.size → ¬ (fun q : Nat => s.heap.size ≤ q) q := fun _ h => Nat.not_le.mpr h
  intro d
  induction d with
  | zero =>
    intro j hj nw th n c Z P U V PM g H locs ls hR G hl
    refine lv_iload hx hb d_L_law_33 (lv_at hl 4 rfl) ?_
    refine lv_aload_n hx hb d_L_law_35 rfl (lv_at hl 0 rfl) ?_
    refine va_slen hx hb hX hbl (hAq b hbl) G.2.2 d_L_law_36 ?_
    refine lv_iconst (v := 4) hx hb d_L_law_37 (by decide) ?_
    refine lv_isub hx hb d_L_law_38 ?_
    refine lv_icmp_gt (tgt := 817) hx hb d_L_law_39 (by decide) (fun c_1 => ?_) (fun c_1 => ?_)
    · refine lv_iconst (v := 1) hx hb d_L_law_817 (by decide) ?_
      refine va_forget (fun q hq => G.2.2.2.2 q hq) ?_
      refine W.widen (k := 1068) (n := 13258) (by omega) (by omega) ?_
      exact lw_ret hx hb hr hlk d_L_law_818
    · have := lw_le hL (by omega) c_1
      exact absurd this (by omega)
  | succ d ih =>
    intro j hj nw th n c Z P U V PM g H locs ls hR G hl
    refine lv_iload hx hb d_L_law_33 (lv_at hl 4 rfl) ?_
    refine lv_aload_n hx hb d_L_law_35 rfl (lv_at hl 0 rfl) ?_
    refine va_slen hx hb hX hbl (hAq b hbl) G.2.2 d_L_law_36 ?_
    refine lv_iconst (v := 4) hx hb d_L_law_37 (by decide) ?_
    refine lv_isub hx hb d_L_law_38 ?_
    refine lv_icmp_gt (tgt := 817) hx hb d_L_law_39 (by decide) (fun c_1 => ?_) (fun c_1 => ?_)
    · refine lv_iconst (v := 1) hx hb d_L_law_817 (by decide) ?_
      refine va_forget (fun q hq => G.2.2.2.2 q hq) ?_
      refine W.widen (k := 1068) (n := 13258) (by omega) (by omega) ?_
      exact lw_ret hx hb hr hlk d_L_law_818
    · have hle := lw_le hL (by omega) c_1
      have h0 : vp_in (nI (1 + 4 * j)) L := vp_in_nI (by omega) (by omega)
      have h1 : vp_in (nI (1 + 4 * j) + 1) L := lw_in (k := 1) hL hle (by omega)
      have h2 : vp_in (nI (1 + 4 * j) + 2) L := lw_in (k := 2) hL hle (by omega)
      have h3 : vp_in (nI (1 + 4 * j) + 3) L := lw_in (k := 3) hL hle (by omega)
      have hcs : 41 + j + 1 ≤ room_1.cells ∧ 5048 + 6 * j + 6 ≤ room_1.slots := by
        show 41 + j + 1 ≤ 1068 ∧ 5048 + 6 * j + 6 ≤ 13258
        omega
      have kk : lwNext p l e s m below meth c0 D cI cJ a bb o b (fun q : Nat => s.heap.size ≤ q) k (nI (1 + 4 * j)) (41 + j + 1) (5048 + 6 * j + 6) := by
        intro nw th n c Z P U V PM g H locs ls hR G hl
        refine lv_iinc (v := nI (1 + 4 * (j + 1))) (lv' := [(4, .int (nI (1 + 4 * (j + 1)))), (0, .ref b), (1, .ref (a 0)), (2, .ref (bb 0)), (3, .ref o)]) hx hb d_L_law_811 hl (k := 4) rfl ?_ (by decide) rfl (fun ls hl => ?_)
        · have e4 : Int32.ofInt 4 = nI 4 := by decide
          rw [e4, nI_add, show 1 + 4 * j + 4 = 1 + 4 * (j + 1) by omega]
        refine lv_goto (tgt := 33) hx hb d_L_law_814 (by decide) ?_
        have := ih (j + 1) (by omega) nw th n c Z P U V PM g H locs ls hR G (lv_sub hl [1, 2, 3, 4, 0] rfl)
        rw [show 41 + (j + 1) = 41 + j + 1 by omega, show 5048 + 6 * (j + 1) = 5048 + 6 * j + 6 by omega] at this
        exact this
      clear ih
      refine lv_aload_n hx hb d_L_law_42 rfl (lv_at hl 0 rfl) ?_
      refine lv_iload hx hb d_L_law_43 (lv_at hl 4 rfl) ?_
      refine va_sld hx hb hX hbl (hAq b hbl) G.2.2 h0 d_L_law_45 ?_
      refine lv_bipush (v := 31) hx hb d_L_law_46 (by decide) ?_
      refine lv_iand hx hb d_L_law_48 ?_
      obtain ⟨q, hq, eq⟩ := pk_andE (xs (nI (1 + 4 * j)).toNatClampNeg) (m := 31) 5 (by decide)
      rw [eq]
      by_cases hq17 : q < 17
      · rcases (show q = 0 ∨ q = 1 ∨ q = 2 ∨ q = 3 ∨ q = 4 ∨ q = 5 ∨ q = 6 ∨ q = 7 ∨ q = 8 ∨ q = 9 ∨ q = 10 ∨ q = 11 ∨ q = 12 ∨ q = 13 ∨ q = 14 ∨ q = 15 ∨ q = 16 by omega) with rfl | rfl | rfl | rfl | rfl | rfl | rfl | rfl | rfl | rfl | rfl | rfl | rfl | rfl | rfl | rfl | rfl
        · refine lv_tableIn (off := 83) (tgt := 132) hx hb d_L_law_49 (by decide) (by decide) (by decide) (by decide) ?_
          exact lw_come E hN hK hA hAq hX hbl h1 h2 h3 hcs hR G hl kk
        · refine lv_tableIn (off := 108) (tgt := 157) hx hb d_L_law_49 (by decide) (by decide) (by decide) (by decide) ?_
          exact lw_leave E hN hK hA hAq hX hbl h1 h2 h3 hcs hR G hl kk
        · refine lv_tableIn (off := 133) (tgt := 182) hx hb d_L_law_49 (by decide) (by decide) (by decide) (by decide) ?_
          exact lw_ask E hN hK hA hAq hX hbl h1 h2 h3 hcs hR G hl kk
        · refine lv_tableIn (off := 182) (tgt := 231) hx hb d_L_law_49 (by decide) (by decide) (by decide) (by decide) ?_
          exact lw_fetch E hN hK hA hAq hX hbl h1 h2 h3 hcs hR G hl kk
        · refine lv_tableIn (off := 219) (tgt := 268) hx hb d_L_law_49 (by decide) (by decide) (by decide) (by decide) ?_
          exact lw_handOut E hN hK hA hAq hX hbl h1 h2 h3 hcs hR G hl kk
        · refine lv_tableIn (off := 256) (tgt := 305) hx hb d_L_law_49 (by decide) (by decide) (by decide) (by decide) ?_
          exact lw_back E hN hK hA hAq hX hbl h1 h2 h3 hcs hR G hl kk
        · refine lv_tableIn (off := 293) (tgt := 342) hx hb d_L_law_49 (by decide) (by decide) (by decide) (by decide) ?_
          exact lw_look E hN hK hA hAq hX hbl h1 h2 h3 hcs hR G hl kk
        · refine lv_tableIn (off := 330) (tgt := 379) hx hb d_L_law_49 (by decide) (by decide) (by decide) (by decide) ?_
          exact lw_mend E hN hK hA hAq hX hbl h1 h2 h3 hcs hR G hl kk
        · refine lv_tableIn (off := 355) (tgt := 404) hx hb d_L_law_49 (by decide) (by decide) (by decide) (by decide) ?_
          exact lw_restrict E hN hK hA hAq hX hbl h1 h2 h3 hcs hR G hl kk
        · refine lv_tableIn (off := 392) (tgt := 441) hx hb d_L_law_49 (by decide) (by decide) (by decide) (by decide) ?_
          exact lw_right E hN hK hA hAq hX hbl h1 h2 h3 hcs hR G hl kk
        · refine lv_tableIn (off := 429) (tgt := 478) hx hb d_L_law_49 (by decide) (by decide) (by decide) (by decide) ?_
          exact lw_limit E hN hK hA hAq hX hbl h1 h2 h3 hcs hR G hl kk
        · refine lv_tableIn (off := 478) (tgt := 527) hx hb d_L_law_49 (by decide) (by decide) (by decide) (by decide) ?_
          exact lw_copy E hN hK hA hAq hX hbl h1 h2 h3 hcs hR G hl kk
        · refine lv_tableIn (off := 527) (tgt := 576) hx hb d_L_law_49 (by decide) (by decide) (by decide) (by decide) ?_
          exact lw_close E hN hK hA hAq hX hbl h1 h2 h3 hcs hR G hl kk
        · refine lv_tableIn (off := 552) (tgt := 601) hx hb d_L_law_49 (by decide) (by decide) (by decide) (by decide) ?_
          exact lw_unit E hN hK hA hAq hX hbl h1 h2 h3 hcs hR G hl kk
        · refine lv_tableIn (off := 589) (tgt := 638) hx hb d_L_law_49 (by decide) (by decide) (by decide) (by decide) ?_
          exact lw_person E hN hK hA hAq hX hbl h1 h2 h3 hcs hR G hl kk
        · refine lv_tableIn (off := 626) (tgt := 675) hx hb d_L_law_49 (by decide) (by decide) (by decide) (by decide) ?_
          exact lw_request hfl hZ E hN hK hA hAq hX hbl h1 h2 h3 hcs hR G hl kk
        · refine lv_tableIn (off := 694) (tgt := 743) hx hb d_L_law_49 (by decide) (by decide) (by decide) (by decide) ?_
          exact lw_waits hfl hZ E hN hK hA hAq hX hbl h1 h2 h3 hcs hR G hl kk
      · refine lv_tableOut (tgt := 811) hx hb d_L_law_49 (Or.inr ?_) (by decide) ?_
        · rw [nI_toInt (by omega)]
          omega
        · exact kk.up nw th n c Z P U V PM g H locs ls hR G hl
end LE
