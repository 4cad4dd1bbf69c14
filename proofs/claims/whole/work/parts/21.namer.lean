abbrev rm_Nam_turn : Room := { frames := 0, cells := 0, slots := 0, locals := 0 }
set_option maxHeartbeats 4000000 in
set_option maxRecDepth 100000 in
theorem c_Nam_turn (l : Launch) (g : JX) (b : BW) (k1 : Nat) (h0 : 0 < k1) (hk1 : k1 < 32) : j_Ct l y_Nam_turn b_Nam_turn 2 (some .int) rm_Nam_turn g ([]) [.int (bI b), .int (nI k1)] (fun r w => r = some (.int (bI (b.rotateRight k1))) ∧ w = []) 0 0 := by
  refine j_ct (by decide) (Nat.le_of_ble_eq_true rfl) (fun κ hkl C hR hI => ?_)
  show j_V g κ 0 0 0 [(0, .int (bI b)), (1, .int (nI k1))] [] ([])
  refine j_iload_n (pc := 0) C d_Nam_turn_0 rfl 0 rfl ?_
  refine j_iload_n (pc := 1) C d_Nam_turn_1 rfl 1 rfl ?_
  refine j_iushrW (pc := 2) C (by omega) d_Nam_turn_2 ?_
  refine j_iload_n (pc := 3) C d_Nam_turn_3 rfl 0 rfl ?_
  refine j_bipush (pc := 4) (v := nI 32) C d_Nam_turn_4 (by decide) ?_
  refine j_iload_n (pc := 6) C d_Nam_turn_6 rfl 1 rfl ?_
  refine j_isubN (pc := 7) C (by omega) d_Nam_turn_7 ?_
  refine j_ishlW (pc := 8) C (by omega) d_Nam_turn_8 ?_
  refine j_ior (pc := 9) C d_Nam_turn_9 ?_
  refine j_rwi (y := bI (b.rotateRight k1)) (bI_turn2 b h0 hk1) ?_
  exact hR.1 _ _ _ _ d_Nam_turn_10 ⟨_, rfl, by first | rfl | decide⟩ (⟨rfl, rfl⟩)
theorem pL (n : Nat) : pLast n = ((n + 8) / 64 + 1) * 64 - 1 := rfl
abbrev rm_Nam_paddedByte : Room := { frames := 0, cells := 0, slots := 0, locals := 0 }
set_option maxHeartbeats 4000000 in
set_option maxRecDepth 100000 in
theorem c_Nam_paddedByte (l : Launch) (g : JX) (sa N0 p n i : Nat) (t : Nat → Nat) (hN : N0 ≤ 2000) (hT : ∀ j, t j < 256) (hp : p + n ≤ N0) (hi : i < ((n + 8) / 64 + 1) * 64) : j_Ct l y_Nam_paddedByte b_Nam_paddedByte 5 (some .int) rm_Nam_paddedByte g ([(sa, .inl (aB g, N0, .inl (bf t)))]) [.ref sa, .int (nI p), .int (nI n), .int (nI i)] (fun r w => r = some (.int (nI (pb (fun j => t (p + j)) n i))) ∧ w = [(sa, .inl (aB g, N0, .inl (bf t)))]) 0 0 := by
  refine j_ct (by decide) (Nat.le_of_ble_eq_true rfl) (fun κ hkl C hR hI => ?_)
  show j_V g κ 0 0 0 [(0, .ref sa), (1, .int (nI p)), (2, .int (nI n)), (3, .int (nI i))] [] ([(sa, .inl (aB g, N0, .inl (bf t)))])
  refine j_iload_n (pc := 0) C d_Nam_paddedByte_0 rfl 3 rfl ?_
  refine j_iload_n (pc := 1) C d_Nam_paddedByte_1 rfl 2 rfl ?_
  refine j_icmp_geN (pc := 2) (tgt := 15) C (by omega) (by omega) d_Nam_paddedByte_2 rfl (fun c2 => ?_) (fun c2 => ?_)
  · skip
    refine j_iload_n (pc := 15) C d_Nam_paddedByte_15 rfl 3 rfl ?_
    refine j_iload_n (pc := 16) C d_Nam_paddedByte_16 rfl 2 rfl ?_
    refine j_icmp_neN (pc := 17) (tgt := 24) C (by omega) (by omega) d_Nam_paddedByte_17 rfl (fun c17 => ?_) (fun c17 => ?_)
    · skip
      refine j_iload_n (pc := 24) C d_Nam_paddedByte_24 rfl 2 rfl ?_
      refine j_bipush (pc := 25) (v := nI 8) C d_Nam_paddedByte_25 (by decide) ?_
      refine j_iaddN (pc := 27) C d_Nam_paddedByte_27 ?_
      refine j_bipush (pc := 28) (v := nI 64) C d_Nam_paddedByte_28 (by decide) ?_
      refine j_idivN (pc := 30) C (by omega) (by omega) (by omega) d_Nam_paddedByte_30 ?_
      refine j_iconst (pc := 31) (v := nI 1) C d_Nam_paddedByte_31 (by decide) ?_
      refine j_iaddN (pc := 32) C d_Nam_paddedByte_32 ?_
      refine j_bipush (pc := 33) (v := nI 64) C d_Nam_paddedByte_33 (by decide) ?_
      refine j_imulN (pc := 35) C d_Nam_paddedByte_35 ?_
      refine j_iconst (pc := 36) (v := nI 1) C d_Nam_paddedByte_36 (by decide) ?_
      refine j_isubN (pc := 37) C (by omega) d_Nam_paddedByte_37 ?_
      refine j_istore (pc := 38) (lv' := [(4, .int (nI (((((n + 8) / 64) + 1) * 64) - 1))), (0, .ref sa), (1, .int (nI p)), (2, .int (nI n)), (3, .int (nI i))]) C d_Nam_paddedByte_38 (by decide) rfl ?_
      refine j_iload_n (pc := 40) C d_Nam_paddedByte_40 rfl 4 rfl ?_
      refine j_iload (pc := 41) C d_Nam_paddedByte_41 0 rfl ?_
      refine j_iconst (pc := 43) (v := nI 4) C d_Nam_paddedByte_43 (by decide) ?_
      refine j_isubN (pc := 44) C (by omega) d_Nam_paddedByte_44 ?_
      refine j_icmp_leN (pc := 45) (tgt := 67) C (by omega) (by omega) d_Nam_paddedByte_45 rfl (fun c45 => ?_) (fun c45 => ?_)
      · skip
        refine j_iconst (pc := 67) (v := nI 0) C d_Nam_paddedByte_67 (by decide) ?_
        exact hR.1 _ _ _ _ d_Nam_paddedByte_68 ⟨_, rfl, by first | rfl | decide⟩ (⟨by first | rw [pb_4 (by omega) (by rw [pL]; omega)] | rw [pb_3 (by omega) (by rw [pL]; omega), pL], rfl⟩)
      · skip
        refine j_iload_n (pc := 48) C d_Nam_paddedByte_48 rfl 3 rfl ?_
        refine j_bipush (pc := 49) (v := nI 8) C d_Nam_paddedByte_49 (by decide) ?_
        refine j_imulN (pc := 51) C d_Nam_paddedByte_51 ?_
        refine j_bipush (pc := 52) (v := nI 8) C d_Nam_paddedByte_52 (by decide) ?_
        refine j_iload (pc := 54) C d_Nam_paddedByte_54 0 rfl ?_
        refine j_iload_n (pc := 56) C d_Nam_paddedByte_56 rfl 4 rfl ?_
        refine j_isubN (pc := 57) C (by omega) d_Nam_paddedByte_57 ?_
        refine j_imulN (pc := 58) C d_Nam_paddedByte_58 ?_
        refine j_iushr (pc := 59) (v := ((nI (n * 8)).toUInt32 >>> ((nI (8 * ((((((n + 8) / 64) + 1) * 64) - 1) - i))).toUInt32 &&& Int32.toUInt32 31)).toInt32) C d_Nam_paddedByte_59 rfl ?_
        refine j_rwi (y := nI (n * 8 / 2 ^ (8 * (((n + 8) / 64 + 1) * 64 - 1 - i)))) (pk_ushrN (by omega) _ _ (sh_u _ (by omega))) ?_
        refine j_sipush (pc := 60) (v := nI 255) C d_Nam_paddedByte_60 (by decide) ?_
        refine j_iand (pc := 63) C d_Nam_paddedByte_63 ?_
        refine j_rwi (y := nI ((n * 8 / 2 ^ (8 * (((n + 8) / 64 + 1) * 64 - 1 - i))) % 256)) (pk_andN (Nat.lt_of_le_of_lt (Nat.div_le_self _ _) (by omega)) 8 (by decide)) ?_
        refine j_goto (pc := 64) (tgt := 68) C d_Nam_paddedByte_64 rfl ?_
        exact hR.1 _ _ _ _ d_Nam_paddedByte_68 ⟨_, rfl, by first | rfl | decide⟩ (⟨by first | rw [pb_4 (by omega) (by rw [pL]; omega)] | rw [pb_3 (by omega) (by rw [pL]; omega), pL], rfl⟩)
    · skip
      refine j_sipush (pc := 20) (v := nI 128) C d_Nam_paddedByte_20 (by decide) ?_
      exact hR.1 _ _ _ _ d_Nam_paddedByte_23 ⟨_, rfl, by first | rfl | decide⟩ (⟨by rw [pb_2 (by omega)], rfl⟩)
  · skip
    refine j_aload_n (pc := 5) C d_Nam_paddedByte_5 rfl 0 rfl ?_
    refine j_iload_n (pc := 6) C d_Nam_paddedByte_6 rfl 1 rfl ?_
    refine j_iload_n (pc := 7) C d_Nam_paddedByte_7 rfl 3 rfl ?_
    refine j_iaddN (pc := 8) C d_Nam_paddedByte_8 ?_
    refine j_baldN (pc := 9) C 0 0 rfl rfl (by omega) (by omega) d_Nam_paddedByte_9 ?_
    refine j_sipush (pc := 10) (v := nI 255) C d_Nam_paddedByte_10 (by decide) ?_
    refine j_iand (pc := 13) C d_Nam_paddedByte_13 ?_
    refine j_rwi (y := nI (t (p + i))) (sb_and (by first | exact hT _ | omega)) ?_
    exact hR.1 _ _ _ _ d_Nam_paddedByte_14 ⟨_, rfl, by first | rfl | decide⟩ (⟨by rw [pb_1 (by omega)], rfl⟩)
abbrev rm_Nam_stretchSchedule : Room := { frames := 1, cells := 0, slots := 0, locals := 21 }
set_option maxHeartbeats 4000000 in
set_option maxRecDepth 100000 in
theorem lp_st {g : JX} {κ : JK} {m0 ms mw mf : Nat} {w : Nat → BW}  (C : j_C g κ b_Nam_stretchSchedule R_Nam rm_Nam_stretchSchedule 6) (hR : j_R g κ b_Nam_stretchSchedule none (fun r w1 => ∃ w2 : Nat → BW, r = none ∧ w1 = [(m0, .inr (1, [.ref ms, .ref mw, .ref mf])), (mw, .inl (aI g, 64, .inl (wf w2)))] ∧ ∀ j, j < 64 → w2 j = wx w j) 0 0) : ∀ (k : Nat) (i : Nat), 16 ≤ i → i ≤ 64 → 65 ≤ i + k → j_V g κ (0) (0) 3 [(0, .ref m0), (1, .int (nI i))] [] ([(m0, .inr (1, [.ref ms, .ref mw, .ref mf])), (mw, .inl (aI g, 64, .inl (wf (stW w i))))]) := by
  intro k
  induction k with
  | zero =>
    intro i h16 hi hk
    exfalso; omega
  | succ k ih =>
    intro i h16 hi hk
    refine j_iload_n (pc := 3) C d_Nam_stretchSchedule_3 rfl 1 rfl ?_
    refine j_bipush (pc := 4) (v := nI 64) C d_Nam_stretchSchedule_4 (by decide) ?_
    refine j_icmp_geN (pc := 6) (tgt := 104) C (by omega) (by omega) d_Nam_stretchSchedule_6 rfl (fun c6 => ?_) (fun c6 => ?_)
    · skip
      exact hR.2.2 _ _ _ d_Nam_stretchSchedule_104 rfl (⟨stW w i, rfl, rfl, fun j hj => stW_lt (by omega)⟩)
    · skip
      refine j_aload_n (pc := 9) C d_Nam_stretchSchedule_9 rfl 0 rfl ?_
      refine j_get (pc := 10) C F_Nam_15 0 rfl rfl d_Nam_stretchSchedule_10 ?_
      refine j_iload_n (pc := 13) C d_Nam_stretchSchedule_13 rfl 1 rfl ?_
      refine j_iconst (pc := 14) (v := nI 2) C d_Nam_stretchSchedule_14 (by decide) ?_
      refine j_isubN (pc := 15) C (by omega) d_Nam_stretchSchedule_15 ?_
      refine j_ialdN (pc := 16) C 1 1 rfl rfl (by omega) (by omega) d_Nam_stretchSchedule_16 ?_
      refine j_istore_n (pc := 17) (lv' := [(2, .int (bI ((stW w i) (i - 2)))), (0, .ref m0), (1, .int (nI i))]) C d_Nam_stretchSchedule_17 rfl (by decide) rfl ?_
      refine j_aload_n (pc := 18) C d_Nam_stretchSchedule_18 rfl 1 rfl ?_
      refine j_get (pc := 19) C F_Nam_15 0 rfl rfl d_Nam_stretchSchedule_19 ?_
      refine j_iload_n (pc := 22) C d_Nam_stretchSchedule_22 rfl 2 rfl ?_
      refine j_bipush (pc := 23) (v := nI 15) C d_Nam_stretchSchedule_23 (by decide) ?_
      refine j_isubN (pc := 25) C (by omega) d_Nam_stretchSchedule_25 ?_
      refine j_ialdN (pc := 26) C 1 1 rfl rfl (by omega) (by omega) d_Nam_stretchSchedule_26 ?_
      refine j_istore_n (pc := 27) (lv' := [(3, .int (bI ((stW w i) (i - 15)))), (2, .int (bI ((stW w i) (i - 2)))), (0, .ref m0), (1, .int (nI i))]) C d_Nam_stretchSchedule_27 rfl (by decide) rfl ?_
      refine j_iload_n (pc := 28) C d_Nam_stretchSchedule_28 rfl 1 rfl ?_
      refine j_bipush (pc := 29) (v := nI 17) C d_Nam_stretchSchedule_29 (by decide) ?_
      refine j_callS (pc := 31) (As := [.int (bI ((stW w i) (i - 2))), .int (nI 17)]) (rest := []) (wc := []) (wr := [(m0, .inr (1, [.ref ms, .ref mw, .ref mf])), (mw, .inl (aI g, 64, .inl (wf (stW w i))))]) C (c_Nam_turn (kl κ) g ((stW w i) (i - 2)) 17 (by decide) (by decide)) Y_Nam_turn ml_Nam_43 sta_Nam_turn rfl ⟨by decide, by decide⟩ rfl (Nat.le_of_ble_eq_true rfl) (j_sb [0, 1] rfl rfl) rfl d_Nam_stretchSchedule_31 (fun r w1 hO => ?_)
      obtain ⟨rfl, rfl⟩ := hO
      show j_V g κ 0 0 34 [(3, .int (bI ((stW w i) (i - 15)))), (2, .int (bI ((stW w i) (i - 2)))), (0, .ref m0), (1, .int (nI i))] [.int (bI (((stW w i) (i - 2)).rotateRight 17))] ([(m0, .inr (1, [.ref ms, .ref mw, .ref mf])), (mw, .inl (aI g, 64, .inl (wf (stW w i))))])
      refine j_iload_n (pc := 34) C d_Nam_stretchSchedule_34 rfl 1 rfl ?_
      refine j_bipush (pc := 35) (v := nI 19) C d_Nam_stretchSchedule_35 (by decide) ?_
      refine j_callS (pc := 37) (As := [.int (bI ((stW w i) (i - 2))), .int (nI 19)]) (rest := [.int (bI (((stW w i) (i - 2)).rotateRight 17))]) (wc := []) (wr := [(m0, .inr (1, [.ref ms, .ref mw, .ref mf])), (mw, .inl (aI g, 64, .inl (wf (stW w i))))]) C (c_Nam_turn (kl κ) g ((stW w i) (i - 2)) 19 (by decide) (by decide)) Y_Nam_turn ml_Nam_43 sta_Nam_turn rfl ⟨by decide, by decide⟩ rfl (Nat.le_of_ble_eq_true rfl) (j_sb [0, 1] rfl rfl) rfl d_Nam_stretchSchedule_37 (fun r w1 hO => ?_)
      obtain ⟨rfl, rfl⟩ := hO
      show j_V g κ 0 0 40 [(3, .int (bI ((stW w i) (i - 15)))), (2, .int (bI ((stW w i) (i - 2)))), (0, .ref m0), (1, .int (nI i))] [.int (bI (((stW w i) (i - 2)).rotateRight 19)), .int (bI (((stW w i) (i - 2)).rotateRight 17))] ([(m0, .inr (1, [.ref ms, .ref mw, .ref mf])), (mw, .inl (aI g, 64, .inl (wf (stW w i))))])
      refine j_ixorW (pc := 40) C d_Nam_stretchSchedule_40 ?_
      refine j_iload_n (pc := 41) C d_Nam_stretchSchedule_41 rfl 1 rfl ?_
      refine j_bipush (pc := 42) (v := nI 10) C d_Nam_stretchSchedule_42 (by decide) ?_
      refine j_iushrW (pc := 44) C (by omega) d_Nam_stretchSchedule_44 ?_
      refine j_ixorW (pc := 45) C d_Nam_stretchSchedule_45 ?_
      refine j_istore (pc := 46) (lv' := [(4, .int (bI (((((stW w i) (i - 2)).rotateRight 17) ^^^ (((stW w i) (i - 2)).rotateRight 19)) ^^^ (((stW w i) (i - 2)) >>> 10)))), (3, .int (bI ((stW w i) (i - 15)))), (2, .int (bI ((stW w i) (i - 2)))), (0, .ref m0), (1, .int (nI i))]) C d_Nam_stretchSchedule_46 (by decide) rfl ?_
      refine j_iload_n (pc := 48) C d_Nam_stretchSchedule_48 rfl 1 rfl ?_
      refine j_bipush (pc := 49) (v := nI 7) C d_Nam_stretchSchedule_49 (by decide) ?_
      refine j_callS (pc := 51) (As := [.int (bI ((stW w i) (i - 15))), .int (nI 7)]) (rest := []) (wc := []) (wr := [(m0, .inr (1, [.ref ms, .ref mw, .ref mf])), (mw, .inl (aI g, 64, .inl (wf (stW w i))))]) C (c_Nam_turn (kl κ) g ((stW w i) (i - 15)) 7 (by decide) (by decide)) Y_Nam_turn ml_Nam_43 sta_Nam_turn rfl ⟨by decide, by decide⟩ rfl (Nat.le_of_ble_eq_true rfl) (j_sb [0, 1] rfl rfl) rfl d_Nam_stretchSchedule_51 (fun r w1 hO => ?_)
      obtain ⟨rfl, rfl⟩ := hO
      show j_V g κ 0 0 54 [(4, .int (bI (((((stW w i) (i - 2)).rotateRight 17) ^^^ (((stW w i) (i - 2)).rotateRight 19)) ^^^ (((stW w i) (i - 2)) >>> 10)))), (3, .int (bI ((stW w i) (i - 15)))), (2, .int (bI ((stW w i) (i - 2)))), (0, .ref m0), (1, .int (nI i))] [.int (bI (((stW w i) (i - 15)).rotateRight 7))] ([(m0, .inr (1, [.ref ms, .ref mw, .ref mf])), (mw, .inl (aI g, 64, .inl (wf (stW w i))))])
      refine j_iload_n (pc := 54) C d_Nam_stretchSchedule_54 rfl 1 rfl ?_
      refine j_bipush (pc := 55) (v := nI 18) C d_Nam_stretchSchedule_55 (by decide) ?_
      refine j_callS (pc := 57) (As := [.int (bI ((stW w i) (i - 15))), .int (nI 18)]) (rest := [.int (bI (((stW w i) (i - 15)).rotateRight 7))]) (wc := []) (wr := [(m0, .inr (1, [.ref ms, .ref mw, .ref mf])), (mw, .inl (aI g, 64, .inl (wf (stW w i))))]) C (c_Nam_turn (kl κ) g ((stW w i) (i - 15)) 18 (by decide) (by decide)) Y_Nam_turn ml_Nam_43 sta_Nam_turn rfl ⟨by decide, by decide⟩ rfl (Nat.le_of_ble_eq_true rfl) (j_sb [0, 1] rfl rfl) rfl d_Nam_stretchSchedule_57 (fun r w1 hO => ?_)
      obtain ⟨rfl, rfl⟩ := hO
      show j_V g κ 0 0 60 [(4, .int (bI (((((stW w i) (i - 2)).rotateRight 17) ^^^ (((stW w i) (i - 2)).rotateRight 19)) ^^^ (((stW w i) (i - 2)) >>> 10)))), (3, .int (bI ((stW w i) (i - 15)))), (2, .int (bI ((stW w i) (i - 2)))), (0, .ref m0), (1, .int (nI i))] [.int (bI (((stW w i) (i - 15)).rotateRight 18)), .int (bI (((stW w i) (i - 15)).rotateRight 7))] ([(m0, .inr (1, [.ref ms, .ref mw, .ref mf])), (mw, .inl (aI g, 64, .inl (wf (stW w i))))])
      refine j_ixorW (pc := 60) C d_Nam_stretchSchedule_60 ?_
      refine j_iload_n (pc := 61) C d_Nam_stretchSchedule_61 rfl 1 rfl ?_
      refine j_iconst (pc := 62) (v := nI 3) C d_Nam_stretchSchedule_62 (by decide) ?_
      refine j_iushrW (pc := 63) C (by omega) d_Nam_stretchSchedule_63 ?_
      refine j_ixorW (pc := 64) C d_Nam_stretchSchedule_64 ?_
      refine j_istore (pc := 65) (lv' := [(5, .int (bI (((((stW w i) (i - 15)).rotateRight 7) ^^^ (((stW w i) (i - 15)).rotateRight 18)) ^^^ (((stW w i) (i - 15)) >>> 3)))), (4, .int (bI (((((stW w i) (i - 2)).rotateRight 17) ^^^ (((stW w i) (i - 2)).rotateRight 19)) ^^^ (((stW w i) (i - 2)) >>> 10)))), (3, .int (bI ((stW w i) (i - 15)))), (2, .int (bI ((stW w i) (i - 2)))), (0, .ref m0), (1, .int (nI i))]) C d_Nam_stretchSchedule_65 (by decide) rfl ?_
      refine j_aload_n (pc := 67) C d_Nam_stretchSchedule_67 rfl 4 rfl ?_
      refine j_get (pc := 68) C F_Nam_15 0 rfl rfl d_Nam_stretchSchedule_68 ?_
      refine j_iload_n (pc := 71) C d_Nam_stretchSchedule_71 rfl 5 rfl ?_
      refine j_iload (pc := 72) C d_Nam_stretchSchedule_72 1 rfl ?_
      refine j_aload_n (pc := 74) C d_Nam_stretchSchedule_74 rfl 4 rfl ?_
      refine j_get (pc := 75) C F_Nam_15 0 rfl rfl d_Nam_stretchSchedule_75 ?_
      refine j_iload_n (pc := 78) C d_Nam_stretchSchedule_78 rfl 5 rfl ?_
      refine j_bipush (pc := 79) (v := nI 7) C d_Nam_stretchSchedule_79 (by decide) ?_
      refine j_isubN (pc := 81) C (by omega) d_Nam_stretchSchedule_81 ?_
      refine j_ialdN (pc := 82) C 1 1 rfl rfl (by omega) (by omega) d_Nam_stretchSchedule_82 ?_
      refine j_iaddW (pc := 83) C d_Nam_stretchSchedule_83 ?_
      refine j_iload (pc := 84) C d_Nam_stretchSchedule_84 0 rfl ?_
      refine j_iaddW (pc := 86) C d_Nam_stretchSchedule_86 ?_
      refine j_aload_n (pc := 87) C d_Nam_stretchSchedule_87 rfl 4 rfl ?_
      refine j_get (pc := 88) C F_Nam_15 0 rfl rfl d_Nam_stretchSchedule_88 ?_
      refine j_iload_n (pc := 91) C d_Nam_stretchSchedule_91 rfl 5 rfl ?_
      refine j_bipush (pc := 92) (v := nI 16) C d_Nam_stretchSchedule_92 (by decide) ?_
      refine j_isubN (pc := 94) C (by omega) d_Nam_stretchSchedule_94 ?_
      refine j_ialdN (pc := 95) C 1 1 rfl rfl (by omega) (by omega) d_Nam_stretchSchedule_95 ?_
      refine j_iaddW (pc := 96) C d_Nam_stretchSchedule_96 ?_
      refine j_rwi (y := bI (wx w i)) (congrArg bI (stW_v h16)) ?_
      refine j_iastW (pc := 97) (ws' := [(m0, .inr (1, [.ref ms, .ref mw, .ref mf])), (mw, .inl (aI g, 64, .inl (wf (va_up (stW w i) i (wx w i)))))]) C 1 1 rfl rfl (by omega) (by omega) rfl d_Nam_stretchSchedule_97 ?_
      refine j_iinc (pc := 98) (k := 5) (v := nI (i + 1)) (lv' := [(1, .int (nI (i + 1))), (5, .int (bI (((((stW w i) (i - 15)).rotateRight 7) ^^^ (((stW w i) (i - 15)).rotateRight 18)) ^^^ (((stW w i) (i - 15)) >>> 3)))), (4, .int (bI (((((stW w i) (i - 2)).rotateRight 17) ^^^ (((stW w i) (i - 2)).rotateRight 19)) ^^^ (((stW w i) (i - 2)) >>> 10)))), (3, .int (bI ((stW w i) (i - 15)))), (2, .int (bI ((stW w i) (i - 2)))), (0, .ref m0)]) C d_Nam_stretchSchedule_98 rfl (j_inc _ _) (by decide) rfl ?_
      refine j_goto (pc := 101) (tgt := 3) C d_Nam_stretchSchedule_101 rfl ?_
      refine j_lv (lv' := [(0, .ref m0), (1, .int (nI (i + 1)))]) [5, 0] rfl ?_
      have e := ih (i + 1) (by omega) (by omega) (by omega)
      rw [← stW_s] at e
      exact e
set_option maxHeartbeats 4000000 in
set_option maxRecDepth 100000 in
theorem c_Nam_stretchSchedule (l : Launch) (g : JX) (m0 ms mw mf : Nat) (w : Nat → BW)  : j_Ct l y_Nam_stretchSchedule b_Nam_stretchSchedule 6 none rm_Nam_stretchSchedule g ([(m0, .inr (1, [.ref ms, .ref mw, .ref mf])), (mw, .inl (aI g, 64, .inl (wf w)))]) [.ref m0] (fun r w1 => ∃ w2 : Nat → BW, r = none ∧ w1 = [(m0, .inr (1, [.ref ms, .ref mw, .ref mf])), (mw, .inl (aI g, 64, .inl (wf w2)))] ∧ ∀ j, j < 64 → w2 j = wx w j) 0 0 := by
  refine j_ct (by decide) (Nat.le_of_ble_eq_true rfl) (fun κ hkl C hR hI => ?_)
  show j_V g κ 0 0 0 [(0, .ref m0)] [] ([(m0, .inr (1, [.ref ms, .ref mw, .ref mf])), (mw, .inl (aI g, 64, .inl (wf w)))])
  refine j_bipush (pc := 0) (v := nI 16) C d_Nam_stretchSchedule_0 (by decide) ?_
  refine j_istore_n (pc := 2) (lv' := [(1, .int (nI 16)), (0, .ref m0)]) C d_Nam_stretchSchedule_2 rfl (by decide) rfl ?_
  refine j_lv (lv' := [(0, .ref m0), (1, .int (nI 16))]) [1, 0] rfl ?_
  have e := lp_st (m0 := m0) (ms := ms) (mw := mw) (mf := mf) (w := w) C hR 65 16 (by omega) (by omega) (by omega)
  rw [stW_16] at e
  exact e
abbrev rm_Nam_mixChunk : Room := { frames := 1, cells := 0, slots := 0, locals := 21 }
set_option maxHeartbeats 4000000 in
set_option maxRecDepth 100000 in
theorem lp_mx {g : JX} {κ : JK} {m0 ms mw mf : Nat} {d w : Nat → BW}  (C : j_C g κ b_Nam_mixChunk R_Nam rm_Nam_mixChunk 15) (hR : j_R g κ b_Nam_mixChunk none (fun r w1 => ∃ d2 : Nat → BW, r = none ∧ w1 = [(m0, .inr (1, [.ref ms, .ref mw, .ref mf])), (ms, .inl (aI g, 8, .inl (wf d2))), (mw, .inl (aI g, 64, .inl (wf w)))] ∧ ∀ j, j < 8 → d2 j = d j + rdN w d 64 j) 0 0) : ∀ (k : Nat) (i : Nat), i ≤ 64 → 65 ≤ i + k → j_V g κ (0) (0) 66 [(0, .ref m0), (1, .int (bI (rdN w d i 0))), (2, .int (bI (rdN w d i 1))), (3, .int (bI (rdN w d i 2))), (4, .int (bI (rdN w d i 3))), (5, .int (bI (rdN w d i 4))), (6, .int (bI (rdN w d i 5))), (7, .int (bI (rdN w d i 6))), (8, .int (bI (rdN w d i 7))), (9, .int (nI i))] [] ([(m0, .inr (1, [.ref ms, .ref mw, .ref mf])), (ms, .inl (aI g, 8, .inl (wf d))), (mw, .inl (aI g, 64, .inl (wf w)))]) := by
  intro k
  induction k with
  | zero =>
    intro i hi hk
    exfalso; omega
  | succ k ih =>
    intro i hi hk
    refine j_iload (pc := 66) C d_Nam_mixChunk_66 9 rfl ?_
    refine j_bipush (pc := 68) (v := nI 64) C d_Nam_mixChunk_68 (by decide) ?_
    refine j_icmp_geN (pc := 70) (tgt := 213) C (by omega) (by omega) d_Nam_mixChunk_70 rfl (fun c70 => ?_) (fun c70 => ?_)
    · skip
      obtain rfl : i = 64 := by omega
      show j_V g κ 0 0 213 [(0, .ref m0), (1, .int (bI (rdN w d 64 0))), (2, .int (bI (rdN w d 64 1))), (3, .int (bI (rdN w d 64 2))), (4, .int (bI (rdN w d 64 3))), (5, .int (bI (rdN w d 64 4))), (6, .int (bI (rdN w d 64 5))), (7, .int (bI (rdN w d 64 6))), (8, .int (bI (rdN w d 64 7))), (9, .int (nI 64))] [] ([(m0, .inr (1, [.ref ms, .ref mw, .ref mf])), (ms, .inl (aI g, 8, .inl (wf d))), (mw, .inl (aI g, 64, .inl (wf w)))])
      refine j_aload_n (pc := 213) C d_Nam_mixChunk_213 rfl 0 rfl ?_
      refine j_get (pc := 214) C F_Nam_9 0 rfl rfl d_Nam_mixChunk_214 ?_
      refine j_iconst (pc := 217) (v := nI 0) C d_Nam_mixChunk_217 (by decide) ?_
      refine j_dup2_11 (pc := 218) C d_Nam_mixChunk_218 rfl rfl ?_
      refine j_ialdN (pc := 219) C 1 1 rfl rfl (by omega) (by omega) d_Nam_mixChunk_219 ?_
      refine j_iload_n (pc := 220) C d_Nam_mixChunk_220 rfl 1 rfl ?_
      refine j_iaddW (pc := 221) C d_Nam_mixChunk_221 ?_
      refine j_iastW (pc := 222) (ws' := [(m0, .inr (1, [.ref ms, .ref mw, .ref mf])), (ms, .inl (aI g, 8, .inl (wf (va_up d 0 ((d 0) + (rdN w d 64 0)))))), (mw, .inl (aI g, 64, .inl (wf w)))]) C 1 1 rfl rfl (by omega) (by omega) rfl d_Nam_mixChunk_222 ?_
      refine j_aload_n (pc := 223) C d_Nam_mixChunk_223 rfl 0 rfl ?_
      refine j_get (pc := 224) C F_Nam_9 0 rfl rfl d_Nam_mixChunk_224 ?_
      refine j_iconst (pc := 227) (v := nI 1) C d_Nam_mixChunk_227 (by decide) ?_
      refine j_dup2_11 (pc := 228) C d_Nam_mixChunk_228 rfl rfl ?_
      refine j_ialdN (pc := 229) C 1 1 rfl rfl (by omega) (by omega) d_Nam_mixChunk_229 ?_
      refine j_iload_n (pc := 230) C d_Nam_mixChunk_230 rfl 2 rfl ?_
      refine j_iaddW (pc := 231) C d_Nam_mixChunk_231 ?_
      refine j_iastW (pc := 232) (ws' := [(m0, .inr (1, [.ref ms, .ref mw, .ref mf])), (ms, .inl (aI g, 8, .inl (wf (va_up (va_up d 0 ((d 0) + (rdN w d 64 0))) 1 ((d 1) + (rdN w d 64 1)))))), (mw, .inl (aI g, 64, .inl (wf w)))]) C 1 1 rfl rfl (by omega) (by omega) rfl d_Nam_mixChunk_232 ?_
      refine j_aload_n (pc := 233) C d_Nam_mixChunk_233 rfl 0 rfl ?_
      refine j_get (pc := 234) C F_Nam_9 0 rfl rfl d_Nam_mixChunk_234 ?_
      refine j_iconst (pc := 237) (v := nI 2) C d_Nam_mixChunk_237 (by decide) ?_
      refine j_dup2_11 (pc := 238) C d_Nam_mixChunk_238 rfl rfl ?_
      refine j_ialdN (pc := 239) C 1 1 rfl rfl (by omega) (by omega) d_Nam_mixChunk_239 ?_
      refine j_iload_n (pc := 240) C d_Nam_mixChunk_240 rfl 3 rfl ?_
      refine j_iaddW (pc := 241) C d_Nam_mixChunk_241 ?_
      refine j_iastW (pc := 242) (ws' := [(m0, .inr (1, [.ref ms, .ref mw, .ref mf])), (ms, .inl (aI g, 8, .inl (wf (va_up (va_up (va_up d 0 ((d 0) + (rdN w d 64 0))) 1 ((d 1) + (rdN w d 64 1))) 2 ((d 2) + (rdN w d 64 2)))))), (mw, .inl (aI g, 64, .inl (wf w)))]) C 1 1 rfl rfl (by omega) (by omega) rfl d_Nam_mixChunk_242 ?_
      refine j_aload_n (pc := 243) C d_Nam_mixChunk_243 rfl 0 rfl ?_
      refine j_get (pc := 244) C F_Nam_9 0 rfl rfl d_Nam_mixChunk_244 ?_
      refine j_iconst (pc := 247) (v := nI 3) C d_Nam_mixChunk_247 (by decide) ?_
      refine j_dup2_11 (pc := 248) C d_Nam_mixChunk_248 rfl rfl ?_
      refine j_ialdN (pc := 249) C 1 1 rfl rfl (by omega) (by omega) d_Nam_mixChunk_249 ?_
      refine j_iload (pc := 250) C d_Nam_mixChunk_250 4 rfl ?_
      refine j_iaddW (pc := 252) C d_Nam_mixChunk_252 ?_
      refine j_iastW (pc := 253) (ws' := [(m0, .inr (1, [.ref ms, .ref mw, .ref mf])), (ms, .inl (aI g, 8, .inl (wf (va_up (va_up (va_up (va_up d 0 ((d 0) + (rdN w d 64 0))) 1 ((d 1) + (rdN w d 64 1))) 2 ((d 2) + (rdN w d 64 2))) 3 ((d 3) + (rdN w d 64 3)))))), (mw, .inl (aI g, 64, .inl (wf w)))]) C 1 1 rfl rfl (by omega) (by omega) rfl d_Nam_mixChunk_253 ?_
      refine j_aload_n (pc := 254) C d_Nam_mixChunk_254 rfl 0 rfl ?_
      refine j_get (pc := 255) C F_Nam_9 0 rfl rfl d_Nam_mixChunk_255 ?_
      refine j_iconst (pc := 258) (v := nI 4) C d_Nam_mixChunk_258 (by decide) ?_
      refine j_dup2_11 (pc := 259) C d_Nam_mixChunk_259 rfl rfl ?_
      refine j_ialdN (pc := 260) C 1 1 rfl rfl (by omega) (by omega) d_Nam_mixChunk_260 ?_
      refine j_iload (pc := 261) C d_Nam_mixChunk_261 5 rfl ?_
      refine j_iaddW (pc := 263) C d_Nam_mixChunk_263 ?_
      refine j_iastW (pc := 264) (ws' := [(m0, .inr (1, [.ref ms, .ref mw, .ref mf])), (ms, .inl (aI g, 8, .inl (wf (va_up (va_up (va_up (va_up (va_up d 0 ((d 0) + (rdN w d 64 0))) 1 ((d 1) + (rdN w d 64 1))) 2 ((d 2) + (rdN w d 64 2))) 3 ((d 3) + (rdN w d 64 3))) 4 ((d 4) + (rdN w d 64 4)))))), (mw, .inl (aI g, 64, .inl (wf w)))]) C 1 1 rfl rfl (by omega) (by omega) rfl d_Nam_mixChunk_264 ?_
      refine j_aload_n (pc := 265) C d_Nam_mixChunk_265 rfl 0 rfl ?_
      refine j_get (pc := 266) C F_Nam_9 0 rfl rfl d_Nam_mixChunk_266 ?_
      refine j_iconst (pc := 269) (v := nI 5) C d_Nam_mixChunk_269 (by decide) ?_
      refine j_dup2_11 (pc := 270) C d_Nam_mixChunk_270 rfl rfl ?_
      refine j_ialdN (pc := 271) C 1 1 rfl rfl (by omega) (by omega) d_Nam_mixChunk_271 ?_
      refine j_iload (pc := 272) C d_Nam_mixChunk_272 6 rfl ?_
      refine j_iaddW (pc := 274) C d_Nam_mixChunk_274 ?_
      refine j_iastW (pc := 275) (ws' := [(m0, .inr (1, [.ref ms, .ref mw, .ref mf])), (ms, .inl (aI g, 8, .inl (wf (va_up (va_up (va_up (va_up (va_up (va_up d 0 ((d 0) + (rdN w d 64 0))) 1 ((d 1) + (rdN w d 64 1))) 2 ((d 2) + (rdN w d 64 2))) 3 ((d 3) + (rdN w d 64 3))) 4 ((d 4) + (rdN w d 64 4))) 5 ((d 5) + (rdN w d 64 5)))))), (mw, .inl (aI g, 64, .inl (wf w)))]) C 1 1 rfl rfl (by omega) (by omega) rfl d_Nam_mixChunk_275 ?_
      refine j_aload_n (pc := 276) C d_Nam_mixChunk_276 rfl 0 rfl ?_
      refine j_get (pc := 277) C F_Nam_9 0 rfl rfl d_Nam_mixChunk_277 ?_
      refine j_bipush (pc := 280) (v := nI 6) C d_Nam_mixChunk_280 (by decide) ?_
      refine j_dup2_11 (pc := 282) C d_Nam_mixChunk_282 rfl rfl ?_
      refine j_ialdN (pc := 283) C 1 1 rfl rfl (by omega) (by omega) d_Nam_mixChunk_283 ?_
      refine j_iload (pc := 284) C d_Nam_mixChunk_284 7 rfl ?_
      refine j_iaddW (pc := 286) C d_Nam_mixChunk_286 ?_
      refine j_iastW (pc := 287) (ws' := [(m0, .inr (1, [.ref ms, .ref mw, .ref mf])), (ms, .inl (aI g, 8, .inl (wf (va_up (va_up (va_up (va_up (va_up (va_up (va_up d 0 ((d 0) + (rdN w d 64 0))) 1 ((d 1) + (rdN w d 64 1))) 2 ((d 2) + (rdN w d 64 2))) 3 ((d 3) + (rdN w d 64 3))) 4 ((d 4) + (rdN w d 64 4))) 5 ((d 5) + (rdN w d 64 5))) 6 ((d 6) + (rdN w d 64 6)))))), (mw, .inl (aI g, 64, .inl (wf w)))]) C 1 1 rfl rfl (by omega) (by omega) rfl d_Nam_mixChunk_287 ?_
      refine j_aload_n (pc := 288) C d_Nam_mixChunk_288 rfl 0 rfl ?_
      refine j_get (pc := 289) C F_Nam_9 0 rfl rfl d_Nam_mixChunk_289 ?_
      refine j_bipush (pc := 292) (v := nI 7) C d_Nam_mixChunk_292 (by decide) ?_
      refine j_dup2_11 (pc := 294) C d_Nam_mixChunk_294 rfl rfl ?_
      refine j_ialdN (pc := 295) C 1 1 rfl rfl (by omega) (by omega) d_Nam_mixChunk_295 ?_
      refine j_iload (pc := 296) C d_Nam_mixChunk_296 8 rfl ?_
      refine j_iaddW (pc := 298) C d_Nam_mixChunk_298 ?_
      refine j_iastW (pc := 299) (ws' := [(m0, .inr (1, [.ref ms, .ref mw, .ref mf])), (ms, .inl (aI g, 8, .inl (wf (va_up (va_up (va_up (va_up (va_up (va_up (va_up (va_up d 0 ((d 0) + (rdN w d 64 0))) 1 ((d 1) + (rdN w d 64 1))) 2 ((d 2) + (rdN w d 64 2))) 3 ((d 3) + (rdN w d 64 3))) 4 ((d 4) + (rdN w d 64 4))) 5 ((d 5) + (rdN w d 64 5))) 6 ((d 6) + (rdN w d 64 6))) 7 ((d 7) + (rdN w d 64 7)))))), (mw, .inl (aI g, 64, .inl (wf w)))]) C 1 1 rfl rfl (by omega) (by omega) rfl d_Nam_mixChunk_299 ?_
      exact hR.2.2 _ _ _ d_Nam_mixChunk_300 rfl (⟨(va_up (va_up (va_up (va_up (va_up (va_up (va_up (va_up d 0 ((d 0) + (rdN w d 64 0))) 1 ((d 1) + (rdN w d 64 1))) 2 ((d 2) + (rdN w d 64 2))) 3 ((d 3) + (rdN w d 64 3))) 4 ((d 4) + (rdN w d 64 4))) 5 ((d 5) + (rdN w d 64 5))) 6 ((d 6) + (rdN w d 64 6))) 7 ((d 7) + (rdN w d 64 7))), rfl, rfl, fun j hj => by match j, hj with | 0, _ => rfl | 1, _ => rfl | 2, _ => rfl | 3, _ => rfl | 4, _ => rfl | 5, _ => rfl | 6, _ => rfl | 7, _ => rfl⟩)
    · skip
      refine j_iload (pc := 73) C d_Nam_mixChunk_73 5 rfl ?_
      refine j_iload (pc := 75) C d_Nam_mixChunk_75 6 rfl ?_
      refine j_iandW (pc := 77) C d_Nam_mixChunk_77 ?_
      refine j_iload (pc := 78) C d_Nam_mixChunk_78 5 rfl ?_
      refine j_iconst (pc := 80) (v := (-1 : Int32)) C d_Nam_mixChunk_80 (by decide) ?_
      refine j_inotW (pc := 81) C d_Nam_mixChunk_81 ?_
      refine j_iload (pc := 82) C d_Nam_mixChunk_82 7 rfl ?_
      refine j_iandW (pc := 84) C d_Nam_mixChunk_84 ?_
      refine j_ixorW (pc := 85) C d_Nam_mixChunk_85 ?_
      refine j_istore (pc := 86) (lv' := [(10, .int (bI (((rdN w d i 4) &&& (rdN w d i 5)) ^^^ ((~~~ (rdN w d i 4)) &&& (rdN w d i 6))))), (0, .ref m0), (1, .int (bI (rdN w d i 0))), (2, .int (bI (rdN w d i 1))), (3, .int (bI (rdN w d i 2))), (4, .int (bI (rdN w d i 3))), (5, .int (bI (rdN w d i 4))), (6, .int (bI (rdN w d i 5))), (7, .int (bI (rdN w d i 6))), (8, .int (bI (rdN w d i 7))), (9, .int (nI i))]) C d_Nam_mixChunk_86 (by decide) rfl ?_
      refine j_iload_n (pc := 88) C d_Nam_mixChunk_88 rfl 2 rfl ?_
      refine j_iload_n (pc := 89) C d_Nam_mixChunk_89 rfl 3 rfl ?_
      refine j_iandW (pc := 90) C d_Nam_mixChunk_90 ?_
      refine j_iload_n (pc := 91) C d_Nam_mixChunk_91 rfl 2 rfl ?_
      refine j_iload_n (pc := 92) C d_Nam_mixChunk_92 rfl 4 rfl ?_
      refine j_iandW (pc := 93) C d_Nam_mixChunk_93 ?_
      refine j_ixorW (pc := 94) C d_Nam_mixChunk_94 ?_
      refine j_iload_n (pc := 95) C d_Nam_mixChunk_95 rfl 3 rfl ?_
      refine j_iload_n (pc := 96) C d_Nam_mixChunk_96 rfl 4 rfl ?_
      refine j_iandW (pc := 97) C d_Nam_mixChunk_97 ?_
      refine j_ixorW (pc := 98) C d_Nam_mixChunk_98 ?_
      refine j_istore (pc := 99) (lv' := [(11, .int (bI ((((rdN w d i 0) &&& (rdN w d i 1)) ^^^ ((rdN w d i 0) &&& (rdN w d i 2))) ^^^ ((rdN w d i 1) &&& (rdN w d i 2))))), (10, .int (bI (((rdN w d i 4) &&& (rdN w d i 5)) ^^^ ((~~~ (rdN w d i 4)) &&& (rdN w d i 6))))), (0, .ref m0), (1, .int (bI (rdN w d i 0))), (2, .int (bI (rdN w d i 1))), (3, .int (bI (rdN w d i 2))), (4, .int (bI (rdN w d i 3))), (5, .int (bI (rdN w d i 4))), (6, .int (bI (rdN w d i 5))), (7, .int (bI (rdN w d i 6))), (8, .int (bI (rdN w d i 7))), (9, .int (nI i))]) C d_Nam_mixChunk_99 (by decide) rfl ?_
      refine j_iload (pc := 101) C d_Nam_mixChunk_101 7 rfl ?_
      refine j_bipush (pc := 103) (v := nI 6) C d_Nam_mixChunk_103 (by decide) ?_
      refine j_callS (pc := 105) (As := [.int (bI (rdN w d i 4)), .int (nI 6)]) (rest := []) (wc := []) (wr := [(m0, .inr (1, [.ref ms, .ref mw, .ref mf])), (ms, .inl (aI g, 8, .inl (wf d))), (mw, .inl (aI g, 64, .inl (wf w)))]) C (c_Nam_turn (kl κ) g (rdN w d i 4) 6 (by decide) (by decide)) Y_Nam_turn ml_Nam_43 sta_Nam_turn rfl ⟨by decide, by decide⟩ rfl (Nat.le_of_ble_eq_true rfl) (j_sb [0, 1, 2] rfl rfl) rfl d_Nam_mixChunk_105 (fun r w1 hO => ?_)
      obtain ⟨rfl, rfl⟩ := hO
      show j_V g κ 0 0 108 [(11, .int (bI ((((rdN w d i 0) &&& (rdN w d i 1)) ^^^ ((rdN w d i 0) &&& (rdN w d i 2))) ^^^ ((rdN w d i 1) &&& (rdN w d i 2))))), (10, .int (bI (((rdN w d i 4) &&& (rdN w d i 5)) ^^^ ((~~~ (rdN w d i 4)) &&& (rdN w d i 6))))), (0, .ref m0), (1, .int (bI (rdN w d i 0))), (2, .int (bI (rdN w d i 1))), (3, .int (bI (rdN w d i 2))), (4, .int (bI (rdN w d i 3))), (5, .int (bI (rdN w d i 4))), (6, .int (bI (rdN w d i 5))), (7, .int (bI (rdN w d i 6))), (8, .int (bI (rdN w d i 7))), (9, .int (nI i))] [.int (bI ((rdN w d i 4).rotateRight 6))] ([(m0, .inr (1, [.ref ms, .ref mw, .ref mf])), (ms, .inl (aI g, 8, .inl (wf d))), (mw, .inl (aI g, 64, .inl (wf w)))])
      refine j_iload (pc := 108) C d_Nam_mixChunk_108 7 rfl ?_
      refine j_bipush (pc := 110) (v := nI 11) C d_Nam_mixChunk_110 (by decide) ?_
      refine j_callS (pc := 112) (As := [.int (bI (rdN w d i 4)), .int (nI 11)]) (rest := [.int (bI ((rdN w d i 4).rotateRight 6))]) (wc := []) (wr := [(m0, .inr (1, [.ref ms, .ref mw, .ref mf])), (ms, .inl (aI g, 8, .inl (wf d))), (mw, .inl (aI g, 64, .inl (wf w)))]) C (c_Nam_turn (kl κ) g (rdN w d i 4) 11 (by decide) (by decide)) Y_Nam_turn ml_Nam_43 sta_Nam_turn rfl ⟨by decide, by decide⟩ rfl (Nat.le_of_ble_eq_true rfl) (j_sb [0, 1, 2] rfl rfl) rfl d_Nam_mixChunk_112 (fun r w1 hO => ?_)
      obtain ⟨rfl, rfl⟩ := hO
      show j_V g κ 0 0 115 [(11, .int (bI ((((rdN w d i 0) &&& (rdN w d i 1)) ^^^ ((rdN w d i 0) &&& (rdN w d i 2))) ^^^ ((rdN w d i 1) &&& (rdN w d i 2))))), (10, .int (bI (((rdN w d i 4) &&& (rdN w d i 5)) ^^^ ((~~~ (rdN w d i 4)) &&& (rdN w d i 6))))), (0, .ref m0), (1, .int (bI (rdN w d i 0))), (2, .int (bI (rdN w d i 1))), (3, .int (bI (rdN w d i 2))), (4, .int (bI (rdN w d i 3))), (5, .int (bI (rdN w d i 4))), (6, .int (bI (rdN w d i 5))), (7, .int (bI (rdN w d i 6))), (8, .int (bI (rdN w d i 7))), (9, .int (nI i))] [.int (bI ((rdN w d i 4).rotateRight 11)), .int (bI ((rdN w d i 4).rotateRight 6))] ([(m0, .inr (1, [.ref ms, .ref mw, .ref mf])), (ms, .inl (aI g, 8, .inl (wf d))), (mw, .inl (aI g, 64, .inl (wf w)))])
      refine j_ixorW (pc := 115) C d_Nam_mixChunk_115 ?_
      refine j_iload (pc := 116) C d_Nam_mixChunk_116 7 rfl ?_
      refine j_bipush (pc := 118) (v := nI 25) C d_Nam_mixChunk_118 (by decide) ?_
      refine j_callS (pc := 120) (As := [.int (bI (rdN w d i 4)), .int (nI 25)]) (rest := [.int (bI (((rdN w d i 4).rotateRight 6) ^^^ ((rdN w d i 4).rotateRight 11)))]) (wc := []) (wr := [(m0, .inr (1, [.ref ms, .ref mw, .ref mf])), (ms, .inl (aI g, 8, .inl (wf d))), (mw, .inl (aI g, 64, .inl (wf w)))]) C (c_Nam_turn (kl κ) g (rdN w d i 4) 25 (by decide) (by decide)) Y_Nam_turn ml_Nam_43 sta_Nam_turn rfl ⟨by decide, by decide⟩ rfl (Nat.le_of_ble_eq_true rfl) (j_sb [0, 1, 2] rfl rfl) rfl d_Nam_mixChunk_120 (fun r w1 hO => ?_)
      obtain ⟨rfl, rfl⟩ := hO
      show j_V g κ 0 0 123 [(11, .int (bI ((((rdN w d i 0) &&& (rdN w d i 1)) ^^^ ((rdN w d i 0) &&& (rdN w d i 2))) ^^^ ((rdN w d i 1) &&& (rdN w d i 2))))), (10, .int (bI (((rdN w d i 4) &&& (rdN w d i 5)) ^^^ ((~~~ (rdN w d i 4)) &&& (rdN w d i 6))))), (0, .ref m0), (1, .int (bI (rdN w d i 0))), (2, .int (bI (rdN w d i 1))), (3, .int (bI (rdN w d i 2))), (4, .int (bI (rdN w d i 3))), (5, .int (bI (rdN w d i 4))), (6, .int (bI (rdN w d i 5))), (7, .int (bI (rdN w d i 6))), (8, .int (bI (rdN w d i 7))), (9, .int (nI i))] [.int (bI ((rdN w d i 4).rotateRight 25)), .int (bI (((rdN w d i 4).rotateRight 6) ^^^ ((rdN w d i 4).rotateRight 11)))] ([(m0, .inr (1, [.ref ms, .ref mw, .ref mf])), (ms, .inl (aI g, 8, .inl (wf d))), (mw, .inl (aI g, 64, .inl (wf w)))])
      refine j_ixorW (pc := 123) C d_Nam_mixChunk_123 ?_
      refine j_istore (pc := 124) (lv' := [(12, .int (bI ((((rdN w d i 4).rotateRight 6) ^^^ ((rdN w d i 4).rotateRight 11)) ^^^ ((rdN w d i 4).rotateRight 25)))), (11, .int (bI ((((rdN w d i 0) &&& (rdN w d i 1)) ^^^ ((rdN w d i 0) &&& (rdN w d i 2))) ^^^ ((rdN w d i 1) &&& (rdN w d i 2))))), (10, .int (bI (((rdN w d i 4) &&& (rdN w d i 5)) ^^^ ((~~~ (rdN w d i 4)) &&& (rdN w d i 6))))), (0, .ref m0), (1, .int (bI (rdN w d i 0))), (2, .int (bI (rdN w d i 1))), (3, .int (bI (rdN w d i 2))), (4, .int (bI (rdN w d i 3))), (5, .int (bI (rdN w d i 4))), (6, .int (bI (rdN w d i 5))), (7, .int (bI (rdN w d i 6))), (8, .int (bI (rdN w d i 7))), (9, .int (nI i))]) C d_Nam_mixChunk_124 (by decide) rfl ?_
      refine j_iload_n (pc := 126) C d_Nam_mixChunk_126 rfl 4 rfl ?_
      refine j_iconst (pc := 127) (v := nI 2) C d_Nam_mixChunk_127 (by decide) ?_
      refine j_callS (pc := 128) (As := [.int (bI (rdN w d i 0)), .int (nI 2)]) (rest := []) (wc := []) (wr := [(m0, .inr (1, [.ref ms, .ref mw, .ref mf])), (ms, .inl (aI g, 8, .inl (wf d))), (mw, .inl (aI g, 64, .inl (wf w)))]) C (c_Nam_turn (kl κ) g (rdN w d i 0) 2 (by decide) (by decide)) Y_Nam_turn ml_Nam_43 sta_Nam_turn rfl ⟨by decide, by decide⟩ rfl (Nat.le_of_ble_eq_true rfl) (j_sb [0, 1, 2] rfl rfl) rfl d_Nam_mixChunk_128 (fun r w1 hO => ?_)
      obtain ⟨rfl, rfl⟩ := hO
      show j_V g κ 0 0 131 [(12, .int (bI ((((rdN w d i 4).rotateRight 6) ^^^ ((rdN w d i 4).rotateRight 11)) ^^^ ((rdN w d i 4).rotateRight 25)))), (11, .int (bI ((((rdN w d i 0) &&& (rdN w d i 1)) ^^^ ((rdN w d i 0) &&& (rdN w d i 2))) ^^^ ((rdN w d i 1) &&& (rdN w d i 2))))), (10, .int (bI (((rdN w d i 4) &&& (rdN w d i 5)) ^^^ ((~~~ (rdN w d i 4)) &&& (rdN w d i 6))))), (0, .ref m0), (1, .int (bI (rdN w d i 0))), (2, .int (bI (rdN w d i 1))), (3, .int (bI (rdN w d i 2))), (4, .int (bI (rdN w d i 3))), (5, .int (bI (rdN w d i 4))), (6, .int (bI (rdN w d i 5))), (7, .int (bI (rdN w d i 6))), (8, .int (bI (rdN w d i 7))), (9, .int (nI i))] [.int (bI ((rdN w d i 0).rotateRight 2))] ([(m0, .inr (1, [.ref ms, .ref mw, .ref mf])), (ms, .inl (aI g, 8, .inl (wf d))), (mw, .inl (aI g, 64, .inl (wf w)))])
      refine j_iload_n (pc := 131) C d_Nam_mixChunk_131 rfl 4 rfl ?_
      refine j_bipush (pc := 132) (v := nI 13) C d_Nam_mixChunk_132 (by decide) ?_
      refine j_callS (pc := 134) (As := [.int (bI (rdN w d i 0)), .int (nI 13)]) (rest := [.int (bI ((rdN w d i 0).rotateRight 2))]) (wc := []) (wr := [(m0, .inr (1, [.ref ms, .ref mw, .ref mf])), (ms, .inl (aI g, 8, .inl (wf d))), (mw, .inl (aI g, 64, .inl (wf w)))]) C (c_Nam_turn (kl κ) g (rdN w d i 0) 13 (by decide) (by decide)) Y_Nam_turn ml_Nam_43 sta_Nam_turn rfl ⟨by decide, by decide⟩ rfl (Nat.le_of_ble_eq_true rfl) (j_sb [0, 1, 2] rfl rfl) rfl d_Nam_mixChunk_134 (fun r w1 hO => ?_)
      obtain ⟨rfl, rfl⟩ := hO
      show j_V g κ 0 0 137 [(12, .int (bI ((((rdN w d i 4).rotateRight 6) ^^^ ((rdN w d i 4).rotateRight 11)) ^^^ ((rdN w d i 4).rotateRight 25)))), (11, .int (bI ((((rdN w d i 0) &&& (rdN w d i 1)) ^^^ ((rdN w d i 0) &&& (rdN w d i 2))) ^^^ ((rdN w d i 1) &&& (rdN w d i 2))))), (10, .int (bI (((rdN w d i 4) &&& (rdN w d i 5)) ^^^ ((~~~ (rdN w d i 4)) &&& (rdN w d i 6))))), (0, .ref m0), (1, .int (bI (rdN w d i 0))), (2, .int (bI (rdN w d i 1))), (3, .int (bI (rdN w d i 2))), (4, .int (bI (rdN w d i 3))), (5, .int (bI (rdN w d i 4))), (6, .int (bI (rdN w d i 5))), (7, .int (bI (rdN w d i 6))), (8, .int (bI (rdN w d i 7))), (9, .int (nI i))] [.int (bI ((rdN w d i 0).rotateRight 13)), .int (bI ((rdN w d i 0).rotateRight 2))] ([(m0, .inr (1, [.ref ms, .ref mw, .ref mf])), (ms, .inl (aI g, 8, .inl (wf d))), (mw, .inl (aI g, 64, .inl (wf w)))])
      refine j_ixorW (pc := 137) C d_Nam_mixChunk_137 ?_
      refine j_iload_n (pc := 138) C d_Nam_mixChunk_138 rfl 4 rfl ?_
      refine j_bipush (pc := 139) (v := nI 22) C d_Nam_mixChunk_139 (by decide) ?_
      refine j_callS (pc := 141) (As := [.int (bI (rdN w d i 0)), .int (nI 22)]) (rest := [.int (bI (((rdN w d i 0).rotateRight 2) ^^^ ((rdN w d i 0).rotateRight 13)))]) (wc := []) (wr := [(m0, .inr (1, [.ref ms, .ref mw, .ref mf])), (ms, .inl (aI g, 8, .inl (wf d))), (mw, .inl (aI g, 64, .inl (wf w)))]) C (c_Nam_turn (kl κ) g (rdN w d i 0) 22 (by decide) (by decide)) Y_Nam_turn ml_Nam_43 sta_Nam_turn rfl ⟨by decide, by decide⟩ rfl (Nat.le_of_ble_eq_true rfl) (j_sb [0, 1, 2] rfl rfl) rfl d_Nam_mixChunk_141 (fun r w1 hO => ?_)
      obtain ⟨rfl, rfl⟩ := hO
      show j_V g κ 0 0 144 [(12, .int (bI ((((rdN w d i 4).rotateRight 6) ^^^ ((rdN w d i 4).rotateRight 11)) ^^^ ((rdN w d i 4).rotateRight 25)))), (11, .int (bI ((((rdN w d i 0) &&& (rdN w d i 1)) ^^^ ((rdN w d i 0) &&& (rdN w d i 2))) ^^^ ((rdN w d i 1) &&& (rdN w d i 2))))), (10, .int (bI (((rdN w d i 4) &&& (rdN w d i 5)) ^^^ ((~~~ (rdN w d i 4)) &&& (rdN w d i 6))))), (0, .ref m0), (1, .int (bI (rdN w d i 0))), (2, .int (bI (rdN w d i 1))), (3, .int (bI (rdN w d i 2))), (4, .int (bI (rdN w d i 3))), (5, .int (bI (rdN w d i 4))), (6, .int (bI (rdN w d i 5))), (7, .int (bI (rdN w d i 6))), (8, .int (bI (rdN w d i 7))), (9, .int (nI i))] [.int (bI ((rdN w d i 0).rotateRight 22)), .int (bI (((rdN w d i 0).rotateRight 2) ^^^ ((rdN w d i 0).rotateRight 13)))] ([(m0, .inr (1, [.ref ms, .ref mw, .ref mf])), (ms, .inl (aI g, 8, .inl (wf d))), (mw, .inl (aI g, 64, .inl (wf w)))])
      refine j_ixorW (pc := 144) C d_Nam_mixChunk_144 ?_
      refine j_istore (pc := 145) (lv' := [(13, .int (bI ((((rdN w d i 0).rotateRight 2) ^^^ ((rdN w d i 0).rotateRight 13)) ^^^ ((rdN w d i 0).rotateRight 22)))), (12, .int (bI ((((rdN w d i 4).rotateRight 6) ^^^ ((rdN w d i 4).rotateRight 11)) ^^^ ((rdN w d i 4).rotateRight 25)))), (11, .int (bI ((((rdN w d i 0) &&& (rdN w d i 1)) ^^^ ((rdN w d i 0) &&& (rdN w d i 2))) ^^^ ((rdN w d i 1) &&& (rdN w d i 2))))), (10, .int (bI (((rdN w d i 4) &&& (rdN w d i 5)) ^^^ ((~~~ (rdN w d i 4)) &&& (rdN w d i 6))))), (0, .ref m0), (1, .int (bI (rdN w d i 0))), (2, .int (bI (rdN w d i 1))), (3, .int (bI (rdN w d i 2))), (4, .int (bI (rdN w d i 3))), (5, .int (bI (rdN w d i 4))), (6, .int (bI (rdN w d i 5))), (7, .int (bI (rdN w d i 6))), (8, .int (bI (rdN w d i 7))), (9, .int (nI i))]) C d_Nam_mixChunk_145 (by decide) rfl ?_
      refine j_iload (pc := 147) C d_Nam_mixChunk_147 12 rfl ?_
      refine j_iload (pc := 149) C d_Nam_mixChunk_149 1 rfl ?_
      refine j_iaddW (pc := 151) C d_Nam_mixChunk_151 ?_
      refine j_iload (pc := 152) C d_Nam_mixChunk_152 3 rfl ?_
      refine j_iaddW (pc := 154) C d_Nam_mixChunk_154 ?_
      refine j_gets (pc := 155) C C.2.2.2.2.2.2.2.2.2.2.2.2.1 fs_Nam_47 d_Nam_mixChunk_155 ?_
      refine j_iload (pc := 158) C d_Nam_mixChunk_158 13 rfl ?_
      refine j_taldR (pc := 160) C (by omega) d_Nam_mixChunk_160 ?_
      refine j_iaddW (pc := 161) C d_Nam_mixChunk_161 ?_
      refine j_aload_n (pc := 162) C d_Nam_mixChunk_162 rfl 4 rfl ?_
      refine j_get (pc := 163) C F_Nam_15 0 rfl rfl d_Nam_mixChunk_163 ?_
      refine j_iload (pc := 166) C d_Nam_mixChunk_166 13 rfl ?_
      refine j_ialdN (pc := 168) C 2 1 rfl rfl (by omega) (by omega) d_Nam_mixChunk_168 ?_
      refine j_iaddW (pc := 169) C d_Nam_mixChunk_169 ?_
      refine j_istore (pc := 170) (lv' := [(14, .int (bI (((((rdN w d i 7) + ((((rdN w d i 4).rotateRight 6) ^^^ ((rdN w d i 4).rotateRight 11)) ^^^ ((rdN w d i 4).rotateRight 25))) + (((rdN w d i 4) &&& (rdN w d i 5)) ^^^ ((~~~ (rdN w d i 4)) &&& (rdN w d i 6)))) + (cK i)) + (w i)))), (13, .int (bI ((((rdN w d i 0).rotateRight 2) ^^^ ((rdN w d i 0).rotateRight 13)) ^^^ ((rdN w d i 0).rotateRight 22)))), (12, .int (bI ((((rdN w d i 4).rotateRight 6) ^^^ ((rdN w d i 4).rotateRight 11)) ^^^ ((rdN w d i 4).rotateRight 25)))), (11, .int (bI ((((rdN w d i 0) &&& (rdN w d i 1)) ^^^ ((rdN w d i 0) &&& (rdN w d i 2))) ^^^ ((rdN w d i 1) &&& (rdN w d i 2))))), (10, .int (bI (((rdN w d i 4) &&& (rdN w d i 5)) ^^^ ((~~~ (rdN w d i 4)) &&& (rdN w d i 6))))), (0, .ref m0), (1, .int (bI (rdN w d i 0))), (2, .int (bI (rdN w d i 1))), (3, .int (bI (rdN w d i 2))), (4, .int (bI (rdN w d i 3))), (5, .int (bI (rdN w d i 4))), (6, .int (bI (rdN w d i 5))), (7, .int (bI (rdN w d i 6))), (8, .int (bI (rdN w d i 7))), (9, .int (nI i))]) C d_Nam_mixChunk_170 (by decide) rfl ?_
      refine j_iload (pc := 172) C d_Nam_mixChunk_172 12 rfl ?_
      refine j_istore (pc := 174) (lv' := [(8, .int (bI (rdN w d i 6))), (14, .int (bI (((((rdN w d i 7) + ((((rdN w d i 4).rotateRight 6) ^^^ ((rdN w d i 4).rotateRight 11)) ^^^ ((rdN w d i 4).rotateRight 25))) + (((rdN w d i 4) &&& (rdN w d i 5)) ^^^ ((~~~ (rdN w d i 4)) &&& (rdN w d i 6)))) + (cK i)) + (w i)))), (13, .int (bI ((((rdN w d i 0).rotateRight 2) ^^^ ((rdN w d i 0).rotateRight 13)) ^^^ ((rdN w d i 0).rotateRight 22)))), (12, .int (bI ((((rdN w d i 4).rotateRight 6) ^^^ ((rdN w d i 4).rotateRight 11)) ^^^ ((rdN w d i 4).rotateRight 25)))), (11, .int (bI ((((rdN w d i 0) &&& (rdN w d i 1)) ^^^ ((rdN w d i 0) &&& (rdN w d i 2))) ^^^ ((rdN w d i 1) &&& (rdN w d i 2))))), (10, .int (bI (((rdN w d i 4) &&& (rdN w d i 5)) ^^^ ((~~~ (rdN w d i 4)) &&& (rdN w d i 6))))), (0, .ref m0), (1, .int (bI (rdN w d i 0))), (2, .int (bI (rdN w d i 1))), (3, .int (bI (rdN w d i 2))), (4, .int (bI (rdN w d i 3))), (5, .int (bI (rdN w d i 4))), (6, .int (bI (rdN w d i 5))), (7, .int (bI (rdN w d i 6))), (9, .int (nI i))]) C d_Nam_mixChunk_174 (by decide) rfl ?_
      refine j_iload (pc := 176) C d_Nam_mixChunk_176 12 rfl ?_
      refine j_istore (pc := 178) (lv' := [(7, .int (bI (rdN w d i 5))), (8, .int (bI (rdN w d i 6))), (14, .int (bI (((((rdN w d i 7) + ((((rdN w d i 4).rotateRight 6) ^^^ ((rdN w d i 4).rotateRight 11)) ^^^ ((rdN w d i 4).rotateRight 25))) + (((rdN w d i 4) &&& (rdN w d i 5)) ^^^ ((~~~ (rdN w d i 4)) &&& (rdN w d i 6)))) + (cK i)) + (w i)))), (13, .int (bI ((((rdN w d i 0).rotateRight 2) ^^^ ((rdN w d i 0).rotateRight 13)) ^^^ ((rdN w d i 0).rotateRight 22)))), (12, .int (bI ((((rdN w d i 4).rotateRight 6) ^^^ ((rdN w d i 4).rotateRight 11)) ^^^ ((rdN w d i 4).rotateRight 25)))), (11, .int (bI ((((rdN w d i 0) &&& (rdN w d i 1)) ^^^ ((rdN w d i 0) &&& (rdN w d i 2))) ^^^ ((rdN w d i 1) &&& (rdN w d i 2))))), (10, .int (bI (((rdN w d i 4) &&& (rdN w d i 5)) ^^^ ((~~~ (rdN w d i 4)) &&& (rdN w d i 6))))), (0, .ref m0), (1, .int (bI (rdN w d i 0))), (2, .int (bI (rdN w d i 1))), (3, .int (bI (rdN w d i 2))), (4, .int (bI (rdN w d i 3))), (5, .int (bI (rdN w d i 4))), (6, .int (bI (rdN w d i 5))), (9, .int (nI i))]) C d_Nam_mixChunk_178 (by decide) rfl ?_
      refine j_iload (pc := 180) C d_Nam_mixChunk_180 12 rfl ?_
      refine j_istore (pc := 182) (lv' := [(6, .int (bI (rdN w d i 4))), (7, .int (bI (rdN w d i 5))), (8, .int (bI (rdN w d i 6))), (14, .int (bI (((((rdN w d i 7) + ((((rdN w d i 4).rotateRight 6) ^^^ ((rdN w d i 4).rotateRight 11)) ^^^ ((rdN w d i 4).rotateRight 25))) + (((rdN w d i 4) &&& (rdN w d i 5)) ^^^ ((~~~ (rdN w d i 4)) &&& (rdN w d i 6)))) + (cK i)) + (w i)))), (13, .int (bI ((((rdN w d i 0).rotateRight 2) ^^^ ((rdN w d i 0).rotateRight 13)) ^^^ ((rdN w d i 0).rotateRight 22)))), (12, .int (bI ((((rdN w d i 4).rotateRight 6) ^^^ ((rdN w d i 4).rotateRight 11)) ^^^ ((rdN w d i 4).rotateRight 25)))), (11, .int (bI ((((rdN w d i 0) &&& (rdN w d i 1)) ^^^ ((rdN w d i 0) &&& (rdN w d i 2))) ^^^ ((rdN w d i 1) &&& (rdN w d i 2))))), (10, .int (bI (((rdN w d i 4) &&& (rdN w d i 5)) ^^^ ((~~~ (rdN w d i 4)) &&& (rdN w d i 6))))), (0, .ref m0), (1, .int (bI (rdN w d i 0))), (2, .int (bI (rdN w d i 1))), (3, .int (bI (rdN w d i 2))), (4, .int (bI (rdN w d i 3))), (5, .int (bI (rdN w d i 4))), (9, .int (nI i))]) C d_Nam_mixChunk_182 (by decide) rfl ?_
      refine j_iload (pc := 184) C d_Nam_mixChunk_184 12 rfl ?_
      refine j_iload (pc := 186) C d_Nam_mixChunk_186 3 rfl ?_
      refine j_iaddW (pc := 188) C d_Nam_mixChunk_188 ?_
      refine j_istore (pc := 189) (lv' := [(5, .int (bI ((rdN w d i 3) + (((((rdN w d i 7) + ((((rdN w d i 4).rotateRight 6) ^^^ ((rdN w d i 4).rotateRight 11)) ^^^ ((rdN w d i 4).rotateRight 25))) + (((rdN w d i 4) &&& (rdN w d i 5)) ^^^ ((~~~ (rdN w d i 4)) &&& (rdN w d i 6)))) + (cK i)) + (w i))))), (6, .int (bI (rdN w d i 4))), (7, .int (bI (rdN w d i 5))), (8, .int (bI (rdN w d i 6))), (14, .int (bI (((((rdN w d i 7) + ((((rdN w d i 4).rotateRight 6) ^^^ ((rdN w d i 4).rotateRight 11)) ^^^ ((rdN w d i 4).rotateRight 25))) + (((rdN w d i 4) &&& (rdN w d i 5)) ^^^ ((~~~ (rdN w d i 4)) &&& (rdN w d i 6)))) + (cK i)) + (w i)))), (13, .int (bI ((((rdN w d i 0).rotateRight 2) ^^^ ((rdN w d i 0).rotateRight 13)) ^^^ ((rdN w d i 0).rotateRight 22)))), (12, .int (bI ((((rdN w d i 4).rotateRight 6) ^^^ ((rdN w d i 4).rotateRight 11)) ^^^ ((rdN w d i 4).rotateRight 25)))), (11, .int (bI ((((rdN w d i 0) &&& (rdN w d i 1)) ^^^ ((rdN w d i 0) &&& (rdN w d i 2))) ^^^ ((rdN w d i 1) &&& (rdN w d i 2))))), (10, .int (bI (((rdN w d i 4) &&& (rdN w d i 5)) ^^^ ((~~~ (rdN w d i 4)) &&& (rdN w d i 6))))), (0, .ref m0), (1, .int (bI (rdN w d i 0))), (2, .int (bI (rdN w d i 1))), (3, .int (bI (rdN w d i 2))), (4, .int (bI (rdN w d i 3))), (9, .int (nI i))]) C d_Nam_mixChunk_189 (by decide) rfl ?_
      refine j_iload_n (pc := 191) C d_Nam_mixChunk_191 rfl 12 rfl ?_
      refine j_istore (pc := 192) (lv' := [(4, .int (bI (rdN w d i 2))), (5, .int (bI ((rdN w d i 3) + (((((rdN w d i 7) + ((((rdN w d i 4).rotateRight 6) ^^^ ((rdN w d i 4).rotateRight 11)) ^^^ ((rdN w d i 4).rotateRight 25))) + (((rdN w d i 4) &&& (rdN w d i 5)) ^^^ ((~~~ (rdN w d i 4)) &&& (rdN w d i 6)))) + (cK i)) + (w i))))), (6, .int (bI (rdN w d i 4))), (7, .int (bI (rdN w d i 5))), (8, .int (bI (rdN w d i 6))), (14, .int (bI (((((rdN w d i 7) + ((((rdN w d i 4).rotateRight 6) ^^^ ((rdN w d i 4).rotateRight 11)) ^^^ ((rdN w d i 4).rotateRight 25))) + (((rdN w d i 4) &&& (rdN w d i 5)) ^^^ ((~~~ (rdN w d i 4)) &&& (rdN w d i 6)))) + (cK i)) + (w i)))), (13, .int (bI ((((rdN w d i 0).rotateRight 2) ^^^ ((rdN w d i 0).rotateRight 13)) ^^^ ((rdN w d i 0).rotateRight 22)))), (12, .int (bI ((((rdN w d i 4).rotateRight 6) ^^^ ((rdN w d i 4).rotateRight 11)) ^^^ ((rdN w d i 4).rotateRight 25)))), (11, .int (bI ((((rdN w d i 0) &&& (rdN w d i 1)) ^^^ ((rdN w d i 0) &&& (rdN w d i 2))) ^^^ ((rdN w d i 1) &&& (rdN w d i 2))))), (10, .int (bI (((rdN w d i 4) &&& (rdN w d i 5)) ^^^ ((~~~ (rdN w d i 4)) &&& (rdN w d i 6))))), (0, .ref m0), (1, .int (bI (rdN w d i 0))), (2, .int (bI (rdN w d i 1))), (3, .int (bI (rdN w d i 2))), (9, .int (nI i))]) C d_Nam_mixChunk_192 (by decide) rfl ?_
      refine j_iload_n (pc := 194) C d_Nam_mixChunk_194 rfl 12 rfl ?_
      refine j_istore_n (pc := 195) (lv' := [(3, .int (bI (rdN w d i 1))), (4, .int (bI (rdN w d i 2))), (5, .int (bI ((rdN w d i 3) + (((((rdN w d i 7) + ((((rdN w d i 4).rotateRight 6) ^^^ ((rdN w d i 4).rotateRight 11)) ^^^ ((rdN w d i 4).rotateRight 25))) + (((rdN w d i 4) &&& (rdN w d i 5)) ^^^ ((~~~ (rdN w d i 4)) &&& (rdN w d i 6)))) + (cK i)) + (w i))))), (6, .int (bI (rdN w d i 4))), (7, .int (bI (rdN w d i 5))), (8, .int (bI (rdN w d i 6))), (14, .int (bI (((((rdN w d i 7) + ((((rdN w d i 4).rotateRight 6) ^^^ ((rdN w d i 4).rotateRight 11)) ^^^ ((rdN w d i 4).rotateRight 25))) + (((rdN w d i 4) &&& (rdN w d i 5)) ^^^ ((~~~ (rdN w d i 4)) &&& (rdN w d i 6)))) + (cK i)) + (w i)))), (13, .int (bI ((((rdN w d i 0).rotateRight 2) ^^^ ((rdN w d i 0).rotateRight 13)) ^^^ ((rdN w d i 0).rotateRight 22)))), (12, .int (bI ((((rdN w d i 4).rotateRight 6) ^^^ ((rdN w d i 4).rotateRight 11)) ^^^ ((rdN w d i 4).rotateRight 25)))), (11, .int (bI ((((rdN w d i 0) &&& (rdN w d i 1)) ^^^ ((rdN w d i 0) &&& (rdN w d i 2))) ^^^ ((rdN w d i 1) &&& (rdN w d i 2))))), (10, .int (bI (((rdN w d i 4) &&& (rdN w d i 5)) ^^^ ((~~~ (rdN w d i 4)) &&& (rdN w d i 6))))), (0, .ref m0), (1, .int (bI (rdN w d i 0))), (2, .int (bI (rdN w d i 1))), (9, .int (nI i))]) C d_Nam_mixChunk_195 rfl (by decide) rfl ?_
      refine j_iload_n (pc := 196) C d_Nam_mixChunk_196 rfl 12 rfl ?_
      refine j_istore_n (pc := 197) (lv' := [(2, .int (bI (rdN w d i 0))), (3, .int (bI (rdN w d i 1))), (4, .int (bI (rdN w d i 2))), (5, .int (bI ((rdN w d i 3) + (((((rdN w d i 7) + ((((rdN w d i 4).rotateRight 6) ^^^ ((rdN w d i 4).rotateRight 11)) ^^^ ((rdN w d i 4).rotateRight 25))) + (((rdN w d i 4) &&& (rdN w d i 5)) ^^^ ((~~~ (rdN w d i 4)) &&& (rdN w d i 6)))) + (cK i)) + (w i))))), (6, .int (bI (rdN w d i 4))), (7, .int (bI (rdN w d i 5))), (8, .int (bI (rdN w d i 6))), (14, .int (bI (((((rdN w d i 7) + ((((rdN w d i 4).rotateRight 6) ^^^ ((rdN w d i 4).rotateRight 11)) ^^^ ((rdN w d i 4).rotateRight 25))) + (((rdN w d i 4) &&& (rdN w d i 5)) ^^^ ((~~~ (rdN w d i 4)) &&& (rdN w d i 6)))) + (cK i)) + (w i)))), (13, .int (bI ((((rdN w d i 0).rotateRight 2) ^^^ ((rdN w d i 0).rotateRight 13)) ^^^ ((rdN w d i 0).rotateRight 22)))), (12, .int (bI ((((rdN w d i 4).rotateRight 6) ^^^ ((rdN w d i 4).rotateRight 11)) ^^^ ((rdN w d i 4).rotateRight 25)))), (11, .int (bI ((((rdN w d i 0) &&& (rdN w d i 1)) ^^^ ((rdN w d i 0) &&& (rdN w d i 2))) ^^^ ((rdN w d i 1) &&& (rdN w d i 2))))), (10, .int (bI (((rdN w d i 4) &&& (rdN w d i 5)) ^^^ ((~~~ (rdN w d i 4)) &&& (rdN w d i 6))))), (0, .ref m0), (1, .int (bI (rdN w d i 0))), (9, .int (nI i))]) C d_Nam_mixChunk_197 rfl (by decide) rfl ?_
      refine j_iload (pc := 198) C d_Nam_mixChunk_198 7 rfl ?_
      refine j_iload (pc := 200) C d_Nam_mixChunk_200 8 rfl ?_
      refine j_iaddW (pc := 202) C d_Nam_mixChunk_202 ?_
      refine j_iload (pc := 203) C d_Nam_mixChunk_203 10 rfl ?_
      refine j_iaddW (pc := 205) C d_Nam_mixChunk_205 ?_
      refine j_istore_n (pc := 206) (lv' := [(1, .int (bI (((((((rdN w d i 7) + ((((rdN w d i 4).rotateRight 6) ^^^ ((rdN w d i 4).rotateRight 11)) ^^^ ((rdN w d i 4).rotateRight 25))) + (((rdN w d i 4) &&& (rdN w d i 5)) ^^^ ((~~~ (rdN w d i 4)) &&& (rdN w d i 6)))) + (cK i)) + (w i)) + ((((rdN w d i 0).rotateRight 2) ^^^ ((rdN w d i 0).rotateRight 13)) ^^^ ((rdN w d i 0).rotateRight 22))) + ((((rdN w d i 0) &&& (rdN w d i 1)) ^^^ ((rdN w d i 0) &&& (rdN w d i 2))) ^^^ ((rdN w d i 1) &&& (rdN w d i 2)))))), (2, .int (bI (rdN w d i 0))), (3, .int (bI (rdN w d i 1))), (4, .int (bI (rdN w d i 2))), (5, .int (bI ((rdN w d i 3) + (((((rdN w d i 7) + ((((rdN w d i 4).rotateRight 6) ^^^ ((rdN w d i 4).rotateRight 11)) ^^^ ((rdN w d i 4).rotateRight 25))) + (((rdN w d i 4) &&& (rdN w d i 5)) ^^^ ((~~~ (rdN w d i 4)) &&& (rdN w d i 6)))) + (cK i)) + (w i))))), (6, .int (bI (rdN w d i 4))), (7, .int (bI (rdN w d i 5))), (8, .int (bI (rdN w d i 6))), (14, .int (bI (((((rdN w d i 7) + ((((rdN w d i 4).rotateRight 6) ^^^ ((rdN w d i 4).rotateRight 11)) ^^^ ((rdN w d i 4).rotateRight 25))) + (((rdN w d i 4) &&& (rdN w d i 5)) ^^^ ((~~~ (rdN w d i 4)) &&& (rdN w d i 6)))) + (cK i)) + (w i)))), (13, .int (bI ((((rdN w d i 0).rotateRight 2) ^^^ ((rdN w d i 0).rotateRight 13)) ^^^ ((rdN w d i 0).rotateRight 22)))), (12, .int (bI ((((rdN w d i 4).rotateRight 6) ^^^ ((rdN w d i 4).rotateRight 11)) ^^^ ((rdN w d i 4).rotateRight 25)))), (11, .int (bI ((((rdN w d i 0) &&& (rdN w d i 1)) ^^^ ((rdN w d i 0) &&& (rdN w d i 2))) ^^^ ((rdN w d i 1) &&& (rdN w d i 2))))), (10, .int (bI (((rdN w d i 4) &&& (rdN w d i 5)) ^^^ ((~~~ (rdN w d i 4)) &&& (rdN w d i 6))))), (0, .ref m0), (9, .int (nI i))]) C d_Nam_mixChunk_206 rfl (by decide) rfl ?_
      refine j_iinc (pc := 207) (k := 14) (v := nI (i + 1)) (lv' := [(9, .int (nI (i + 1))), (1, .int (bI (((((((rdN w d i 7) + ((((rdN w d i 4).rotateRight 6) ^^^ ((rdN w d i 4).rotateRight 11)) ^^^ ((rdN w d i 4).rotateRight 25))) + (((rdN w d i 4) &&& (rdN w d i 5)) ^^^ ((~~~ (rdN w d i 4)) &&& (rdN w d i 6)))) + (cK i)) + (w i)) + ((((rdN w d i 0).rotateRight 2) ^^^ ((rdN w d i 0).rotateRight 13)) ^^^ ((rdN w d i 0).rotateRight 22))) + ((((rdN w d i 0) &&& (rdN w d i 1)) ^^^ ((rdN w d i 0) &&& (rdN w d i 2))) ^^^ ((rdN w d i 1) &&& (rdN w d i 2)))))), (2, .int (bI (rdN w d i 0))), (3, .int (bI (rdN w d i 1))), (4, .int (bI (rdN w d i 2))), (5, .int (bI ((rdN w d i 3) + (((((rdN w d i 7) + ((((rdN w d i 4).rotateRight 6) ^^^ ((rdN w d i 4).rotateRight 11)) ^^^ ((rdN w d i 4).rotateRight 25))) + (((rdN w d i 4) &&& (rdN w d i 5)) ^^^ ((~~~ (rdN w d i 4)) &&& (rdN w d i 6)))) + (cK i)) + (w i))))), (6, .int (bI (rdN w d i 4))), (7, .int (bI (rdN w d i 5))), (8, .int (bI (rdN w d i 6))), (14, .int (bI (((((rdN w d i 7) + ((((rdN w d i 4).rotateRight 6) ^^^ ((rdN w d i 4).rotateRight 11)) ^^^ ((rdN w d i 4).rotateRight 25))) + (((rdN w d i 4) &&& (rdN w d i 5)) ^^^ ((~~~ (rdN w d i 4)) &&& (rdN w d i 6)))) + (cK i)) + (w i)))), (13, .int (bI ((((rdN w d i 0).rotateRight 2) ^^^ ((rdN w d i 0).rotateRight 13)) ^^^ ((rdN w d i 0).rotateRight 22)))), (12, .int (bI ((((rdN w d i 4).rotateRight 6) ^^^ ((rdN w d i 4).rotateRight 11)) ^^^ ((rdN w d i 4).rotateRight 25)))), (11, .int (bI ((((rdN w d i 0) &&& (rdN w d i 1)) ^^^ ((rdN w d i 0) &&& (rdN w d i 2))) ^^^ ((rdN w d i 1) &&& (rdN w d i 2))))), (10, .int (bI (((rdN w d i 4) &&& (rdN w d i 5)) ^^^ ((~~~ (rdN w d i 4)) &&& (rdN w d i 6))))), (0, .ref m0)]) C d_Nam_mixChunk_207 rfl (j_inc _ _) (by decide) rfl ?_
      refine j_goto (pc := 210) (tgt := 66) C d_Nam_mixChunk_210 rfl ?_
      refine j_lv (lv' := [(0, .ref m0), (1, .int (bI (((((((rdN w d i 7) + ((((rdN w d i 4).rotateRight 6) ^^^ ((rdN w d i 4).rotateRight 11)) ^^^ ((rdN w d i 4).rotateRight 25))) + (((rdN w d i 4) &&& (rdN w d i 5)) ^^^ ((~~~ (rdN w d i 4)) &&& (rdN w d i 6)))) + (cK i)) + (w i)) + ((((rdN w d i 0).rotateRight 2) ^^^ ((rdN w d i 0).rotateRight 13)) ^^^ ((rdN w d i 0).rotateRight 22))) + ((((rdN w d i 0) &&& (rdN w d i 1)) ^^^ ((rdN w d i 0) &&& (rdN w d i 2))) ^^^ ((rdN w d i 1) &&& (rdN w d i 2)))))), (2, .int (bI (rdN w d i 0))), (3, .int (bI (rdN w d i 1))), (4, .int (bI (rdN w d i 2))), (5, .int (bI ((rdN w d i 3) + (((((rdN w d i 7) + ((((rdN w d i 4).rotateRight 6) ^^^ ((rdN w d i 4).rotateRight 11)) ^^^ ((rdN w d i 4).rotateRight 25))) + (((rdN w d i 4) &&& (rdN w d i 5)) ^^^ ((~~~ (rdN w d i 4)) &&& (rdN w d i 6)))) + (cK i)) + (w i))))), (6, .int (bI (rdN w d i 4))), (7, .int (bI (rdN w d i 5))), (8, .int (bI (rdN w d i 6))), (9, .int (nI (i + 1)))]) [14, 1, 2, 3, 4, 5, 6, 7, 8, 0] rfl ?_
      exact ih (i + 1) (by omega) (by omega)
set_option maxHeartbeats 4000000 in
set_option maxRecDepth 100000 in
theorem c_Nam_mixChunk (l : Launch) (g : JX) (m0 ms mw mf : Nat) (d w : Nat → BW)  : j_Ct l y_Nam_mixChunk b_Nam_mixChunk 15 none rm_Nam_mixChunk g ([(m0, .inr (1, [.ref ms, .ref mw, .ref mf])), (ms, .inl (aI g, 8, .inl (wf d))), (mw, .inl (aI g, 64, .inl (wf w)))]) [.ref m0] (fun r w1 => ∃ d2 : Nat → BW, r = none ∧ w1 = [(m0, .inr (1, [.ref ms, .ref mw, .ref mf])), (ms, .inl (aI g, 8, .inl (wf d2))), (mw, .inl (aI g, 64, .inl (wf w)))] ∧ ∀ j, j < 8 → d2 j = d j + rdN w d 64 j) 0 0 := by
  refine j_ct (by decide) (Nat.le_of_ble_eq_true rfl) (fun κ hkl C hR hI => ?_)
  show j_V g κ 0 0 0 [(0, .ref m0)] [] ([(m0, .inr (1, [.ref ms, .ref mw, .ref mf])), (ms, .inl (aI g, 8, .inl (wf d))), (mw, .inl (aI g, 64, .inl (wf w)))])
  refine j_aload_n (pc := 0) C d_Nam_mixChunk_0 rfl 0 rfl ?_
  refine j_get (pc := 1) C F_Nam_9 0 rfl rfl d_Nam_mixChunk_1 ?_
  refine j_iconst (pc := 4) (v := nI 0) C d_Nam_mixChunk_4 (by decide) ?_
  refine j_ialdN (pc := 5) C 1 1 rfl rfl (by omega) (by omega) d_Nam_mixChunk_5 ?_
  refine j_istore_n (pc := 6) (lv' := [(1, .int (bI (d 0))), (0, .ref m0)]) C d_Nam_mixChunk_6 rfl (by decide) rfl ?_
  refine j_aload_n (pc := 7) C d_Nam_mixChunk_7 rfl 1 rfl ?_
  refine j_get (pc := 8) C F_Nam_9 0 rfl rfl d_Nam_mixChunk_8 ?_
  refine j_iconst (pc := 11) (v := nI 1) C d_Nam_mixChunk_11 (by decide) ?_
  refine j_ialdN (pc := 12) C 1 1 rfl rfl (by omega) (by omega) d_Nam_mixChunk_12 ?_
  refine j_istore_n (pc := 13) (lv' := [(2, .int (bI (d 1))), (1, .int (bI (d 0))), (0, .ref m0)]) C d_Nam_mixChunk_13 rfl (by decide) rfl ?_
  refine j_aload_n (pc := 14) C d_Nam_mixChunk_14 rfl 2 rfl ?_
  refine j_get (pc := 15) C F_Nam_9 0 rfl rfl d_Nam_mixChunk_15 ?_
  refine j_iconst (pc := 18) (v := nI 2) C d_Nam_mixChunk_18 (by decide) ?_
  refine j_ialdN (pc := 19) C 1 1 rfl rfl (by omega) (by omega) d_Nam_mixChunk_19 ?_
  refine j_istore_n (pc := 20) (lv' := [(3, .int (bI (d 2))), (2, .int (bI (d 1))), (1, .int (bI (d 0))), (0, .ref m0)]) C d_Nam_mixChunk_20 rfl (by decide) rfl ?_
  refine j_aload_n (pc := 21) C d_Nam_mixChunk_21 rfl 3 rfl ?_
  refine j_get (pc := 22) C F_Nam_9 0 rfl rfl d_Nam_mixChunk_22 ?_
  refine j_iconst (pc := 25) (v := nI 3) C d_Nam_mixChunk_25 (by decide) ?_
  refine j_ialdN (pc := 26) C 1 1 rfl rfl (by omega) (by omega) d_Nam_mixChunk_26 ?_
  refine j_istore (pc := 27) (lv' := [(4, .int (bI (d 3))), (3, .int (bI (d 2))), (2, .int (bI (d 1))), (1, .int (bI (d 0))), (0, .ref m0)]) C d_Nam_mixChunk_27 (by decide) rfl ?_
  refine j_aload_n (pc := 29) C d_Nam_mixChunk_29 rfl 4 rfl ?_
  refine j_get (pc := 30) C F_Nam_9 0 rfl rfl d_Nam_mixChunk_30 ?_
  refine j_iconst (pc := 33) (v := nI 4) C d_Nam_mixChunk_33 (by decide) ?_
  refine j_ialdN (pc := 34) C 1 1 rfl rfl (by omega) (by omega) d_Nam_mixChunk_34 ?_
  refine j_istore (pc := 35) (lv' := [(5, .int (bI (d 4))), (4, .int (bI (d 3))), (3, .int (bI (d 2))), (2, .int (bI (d 1))), (1, .int (bI (d 0))), (0, .ref m0)]) C d_Nam_mixChunk_35 (by decide) rfl ?_
  refine j_aload_n (pc := 37) C d_Nam_mixChunk_37 rfl 5 rfl ?_
  refine j_get (pc := 38) C F_Nam_9 0 rfl rfl d_Nam_mixChunk_38 ?_
  refine j_iconst (pc := 41) (v := nI 5) C d_Nam_mixChunk_41 (by decide) ?_
  refine j_ialdN (pc := 42) C 1 1 rfl rfl (by omega) (by omega) d_Nam_mixChunk_42 ?_
  refine j_istore (pc := 43) (lv' := [(6, .int (bI (d 5))), (5, .int (bI (d 4))), (4, .int (bI (d 3))), (3, .int (bI (d 2))), (2, .int (bI (d 1))), (1, .int (bI (d 0))), (0, .ref m0)]) C d_Nam_mixChunk_43 (by decide) rfl ?_
  refine j_aload_n (pc := 45) C d_Nam_mixChunk_45 rfl 6 rfl ?_
  refine j_get (pc := 46) C F_Nam_9 0 rfl rfl d_Nam_mixChunk_46 ?_
  refine j_bipush (pc := 49) (v := nI 6) C d_Nam_mixChunk_49 (by decide) ?_
  refine j_ialdN (pc := 51) C 1 1 rfl rfl (by omega) (by omega) d_Nam_mixChunk_51 ?_
  refine j_istore (pc := 52) (lv' := [(7, .int (bI (d 6))), (6, .int (bI (d 5))), (5, .int (bI (d 4))), (4, .int (bI (d 3))), (3, .int (bI (d 2))), (2, .int (bI (d 1))), (1, .int (bI (d 0))), (0, .ref m0)]) C d_Nam_mixChunk_52 (by decide) rfl ?_
  refine j_aload_n (pc := 54) C d_Nam_mixChunk_54 rfl 7 rfl ?_
  refine j_get (pc := 55) C F_Nam_9 0 rfl rfl d_Nam_mixChunk_55 ?_
  refine j_bipush (pc := 58) (v := nI 7) C d_Nam_mixChunk_58 (by decide) ?_
  refine j_ialdN (pc := 60) C 1 1 rfl rfl (by omega) (by omega) d_Nam_mixChunk_60 ?_
  refine j_istore (pc := 61) (lv' := [(8, .int (bI (d 7))), (7, .int (bI (d 6))), (6, .int (bI (d 5))), (5, .int (bI (d 4))), (4, .int (bI (d 3))), (3, .int (bI (d 2))), (2, .int (bI (d 1))), (1, .int (bI (d 0))), (0, .ref m0)]) C d_Nam_mixChunk_61 (by decide) rfl ?_
  refine j_iconst (pc := 63) (v := nI 0) C d_Nam_mixChunk_63 (by decide) ?_
  refine j_istore (pc := 64) (lv' := [(9, .int (nI 0)), (8, .int (bI (d 7))), (7, .int (bI (d 6))), (6, .int (bI (d 5))), (5, .int (bI (d 4))), (4, .int (bI (d 3))), (3, .int (bI (d 2))), (2, .int (bI (d 1))), (1, .int (bI (d 0))), (0, .ref m0)]) C d_Nam_mixChunk_64 (by decide) rfl ?_
  refine j_lv (lv' := [(0, .ref m0), (1, .int (bI (d 0))), (2, .int (bI (d 1))), (3, .int (bI (d 2))), (4, .int (bI (d 3))), (5, .int (bI (d 4))), (6, .int (bI (d 5))), (7, .int (bI (d 6))), (8, .int (bI (d 7))), (9, .int (nI 0))]) [9, 8, 7, 6, 5, 4, 3, 2, 1, 0] rfl ?_
  exact lp_mx (m0 := m0) (ms := ms) (mw := mw) (mf := mf) (d := d) (w := w) C hR 65 0 (by omega) (by omega)
