abbrev rm_Mod_fails : Room := { frames := 0, cells := 0, slots := 0, locals := 0 }
set_option maxHeartbeats 4000000 in
set_option maxRecDepth 100000 in
theorem c_Mod_fails (l : Launch) (g : JX) (o : Nat) (a : Nat → Nat) (n : Nat) (sz ib mn pl db : Int32) (q z x y : Int32)  : j_Ct l y_Mod_fails b_Mod_fails 3 none rm_Mod_fails g ([(o, .inr (6, mo a sz (nI n) ib mn pl q (nI 0) z db))]) [.ref o, .int x, .int y] (fun r w => r = none ∧ w = [(o, .inr (6, mo a sz (nI n) ib mn pl q x y db))]) 0 0 := by
  refine j_ct (by decide) (Nat.le_of_ble_eq_true rfl) (fun κ hkl C hR hI => ?_)
  show j_V g κ 0 0 0 [(0, .ref o), (1, .int x), (2, .int y)] [] ([(o, .inr (6, mo a sz (nI n) ib mn pl q (nI 0) z db))])
  refine j_aload_n (pc := 0) C d_Mod_fails_0 rfl 0 rfl ?_
  refine j_get (pc := 1) C F_Mod_137 0 rfl rfl d_Mod_fails_1 ?_
  refine j_if_leN (pc := 4) (tgt := 8) C (by omega) d_Mod_fails_4 rfl (fun c4 => ?_) (fun c4 => ?_)
  · skip
    refine j_aload_n (pc := 8) C d_Mod_fails_8 rfl 0 rfl ?_
    refine j_iload_n (pc := 9) C d_Mod_fails_9 rfl 1 rfl ?_
    refine j_put (pc := 10) (ws' := [(o, .inr (6, mo a sz (nI n) ib mn pl q x z db))]) C Fp_Mod_137 0 rfl rfl (by first | rfl | decide) (Nat.le_of_ble_eq_true rfl) rfl d_Mod_fails_10 ?_
    refine j_aload_n (pc := 13) C d_Mod_fails_13 rfl 0 rfl ?_
    refine j_iload_n (pc := 14) C d_Mod_fails_14 rfl 2 rfl ?_
    refine j_put (pc := 15) (ws' := [(o, .inr (6, mo a sz (nI n) ib mn pl q x y db))]) C Fp_Mod_140 0 rfl rfl (by first | rfl | decide) (Nat.le_of_ble_eq_true rfl) rfl d_Mod_fails_15 ?_
    exact hR.2.2 _ _ _ d_Mod_fails_18 rfl (⟨rfl, rfl⟩)
  · exfalso; omega
set_option maxHeartbeats 4000000 in
set_option maxRecDepth 100000 in
theorem c_Mod_fails2 (l : Launch) (g : JX) (o : Nat) (a : Nat → Nat) (n f : Nat) (sz ib mn pl db : Int32) (q z x y : Int32) (hf : 0 < f) (hf2 : f < 5) : j_Ct l y_Mod_fails b_Mod_fails 3 none rm_Mod_fails g ([(o, .inr (6, mo a sz (nI n) ib mn pl q (nI f) z db))]) [.ref o, .int x, .int y] (fun r w => r = none ∧ w = [(o, .inr (6, mo a sz (nI n) ib mn pl q (nI f) z db))]) 0 0 := by
  refine j_ct (by decide) (Nat.le_of_ble_eq_true rfl) (fun κ hkl C hR hI => ?_)
  show j_V g κ 0 0 0 [(0, .ref o), (1, .int x), (2, .int y)] [] ([(o, .inr (6, mo a sz (nI n) ib mn pl q (nI f) z db))])
  refine j_aload_n (pc := 0) C d_Mod_fails_0 rfl 0 rfl ?_
  refine j_get (pc := 1) C F_Mod_137 0 rfl rfl d_Mod_fails_1 ?_
  refine j_if_leN (pc := 4) (tgt := 8) C (by omega) d_Mod_fails_4 rfl (fun c4 => ?_) (fun c4 => ?_)
  · skip
    exfalso; omega
  · skip
    exact hR.2.2 _ _ _ d_Mod_fails_7 rfl (⟨rfl, rfl⟩)
abbrev rm_Mod_pass : Room := { frames := 1, cells := 0, slots := 0, locals := 22 }
set_option maxHeartbeats 4000000 in
set_option maxRecDepth 100000 in
theorem c_Mod_pass_ok (l : Launch) (g : JX) (o : Nat) (a : Nat → Nat) (n p k1 : Nat) (sz ib mn pl db : Int32) (z : Int32) (hn : n ≤ 2000) (h : p + k1 ≤ n) : j_Ct l y_Mod_pass b_Mod_pass 2 none rm_Mod_pass g ([(o, .inr (6, mo a sz (nI n) ib mn pl (nI p) (nI 0) z db))]) [.ref o, .int (nI k1)] (fun r w => r = none ∧ w = [(o, .inr (6, mo a sz (nI n) ib mn pl (nI (p + k1)) (nI 0) z db))]) 0 0 := by
  refine j_ct (by decide) (Nat.le_of_ble_eq_true rfl) (fun κ hkl C hR hI => ?_)
  show j_V g κ 0 0 0 [(0, .ref o), (1, .int (nI k1))] [] ([(o, .inr (6, mo a sz (nI n) ib mn pl (nI p) (nI 0) z db))])
  refine j_aload_n (pc := 0) C d_Mod_pass_0 rfl 0 rfl ?_
  refine j_get (pc := 1) C F_Mod_137 0 rfl rfl d_Mod_pass_1 ?_
  refine j_if_neN (pc := 4) (tgt := 29) C (by omega) d_Mod_pass_4 rfl (fun c4 => ?_) (fun c4 => ?_)
  · exfalso; omega
  · skip
    refine j_aload_n (pc := 7) C d_Mod_pass_7 rfl 0 rfl ?_
    refine j_get (pc := 8) C F_Mod_143 0 rfl rfl d_Mod_pass_8 ?_
    refine j_iload_n (pc := 11) C d_Mod_pass_11 rfl 1 rfl ?_
    refine j_iaddN (pc := 12) C d_Mod_pass_12 ?_
    refine j_aload_n (pc := 13) C d_Mod_pass_13 rfl 0 rfl ?_
    refine j_get (pc := 14) C F_Mod_146 0 rfl rfl d_Mod_pass_14 ?_
    refine j_icmp_leN (pc := 17) (tgt := 29) C (by omega) (by omega) d_Mod_pass_17 rfl (fun c17 => ?_) (fun c17 => ?_)
    · skip
      refine j_aload_n (pc := 29) C d_Mod_pass_29 rfl 0 rfl ?_
      refine j_aload_n (pc := 30) C d_Mod_pass_30 rfl 0 rfl ?_
      refine j_get (pc := 31) C F_Mod_143 0 rfl rfl d_Mod_pass_31 ?_
      refine j_iload_n (pc := 34) C d_Mod_pass_34 rfl 1 rfl ?_
      refine j_iaddN (pc := 35) C d_Mod_pass_35 ?_
      refine j_put (pc := 36) (ws' := [(o, .inr (6, mo a sz (nI n) ib mn pl (nI (p + k1)) (nI 0) z db))]) C Fp_Mod_143 0 rfl rfl (by first | rfl | decide) (Nat.le_of_ble_eq_true rfl) rfl d_Mod_pass_36 ?_
      exact hR.2.2 _ _ _ d_Mod_pass_39 rfl (⟨rfl, rfl⟩)
    · skip
      exfalso; omega
set_option maxHeartbeats 4000000 in
set_option maxRecDepth 100000 in
theorem c_Mod_pass_no (l : Launch) (g : JX) (o : Nat) (a : Nat → Nat) (n p k1 : Nat) (sz ib mn pl db : Int32) (z : Int32) (hn : n ≤ 2000) (hp : p ≤ n) (hk1 : k1 < 2 ^ 30) (h : n < p + k1) : j_Ct l y_Mod_pass b_Mod_pass 2 none rm_Mod_pass g ([(o, .inr (6, mo a sz (nI n) ib mn pl (nI p) (nI 0) z db))]) [.ref o, .int (nI k1)] (fun r w => r = none ∧ w = [(o, .inr (6, mo a sz (nI n) ib mn pl (nI (p + k1)) (nI 1) (nI n) db))]) 0 0 := by
  refine j_ct (by decide) (Nat.le_of_ble_eq_true rfl) (fun κ hkl C hR hI => ?_)
  show j_V g κ 0 0 0 [(0, .ref o), (1, .int (nI k1))] [] ([(o, .inr (6, mo a sz (nI n) ib mn pl (nI p) (nI 0) z db))])
  refine j_aload_n (pc := 0) C d_Mod_pass_0 rfl 0 rfl ?_
  refine j_get (pc := 1) C F_Mod_137 0 rfl rfl d_Mod_pass_1 ?_
  refine j_if_neN (pc := 4) (tgt := 29) C (by omega) d_Mod_pass_4 rfl (fun c4 => ?_) (fun c4 => ?_)
  · exfalso; omega
  · skip
    refine j_aload_n (pc := 7) C d_Mod_pass_7 rfl 0 rfl ?_
    refine j_get (pc := 8) C F_Mod_143 0 rfl rfl d_Mod_pass_8 ?_
    refine j_iload_n (pc := 11) C d_Mod_pass_11 rfl 1 rfl ?_
    refine j_iaddN (pc := 12) C d_Mod_pass_12 ?_
    refine j_aload_n (pc := 13) C d_Mod_pass_13 rfl 0 rfl ?_
    refine j_get (pc := 14) C F_Mod_146 0 rfl rfl d_Mod_pass_14 ?_
    refine j_icmp_leN (pc := 17) (tgt := 29) C (by omega) (by omega) d_Mod_pass_17 rfl (fun c17 => ?_) (fun c17 => ?_)
    · skip
      exfalso; omega
    · skip
      refine j_aload_n (pc := 20) C d_Mod_pass_20 rfl 0 rfl ?_
      refine j_iconst (pc := 21) (v := nI 1) C d_Mod_pass_21 (by decide) ?_
      refine j_aload_n (pc := 22) C d_Mod_pass_22 rfl 0 rfl ?_
      refine j_get (pc := 23) C F_Mod_146 0 rfl rfl d_Mod_pass_23 ?_
      refine j_callV (pc := 26) (As := [.int (nI 1), .int (nI n)]) (rest := []) (wc := [(o, .inr (6, mo a sz (nI n) ib mn pl (nI p) (nI 0) z db))]) (wr := []) C (c_Mod_fails (kl κ) g o a n sz ib mn pl db (nI p) z (nI 1) (nI n)) Y_Mod_fails ml_Mod_149 im_Mod_fails sl_Mod_fails rfl ⟨by decide, by decide⟩ rfl (ci := 6) (q0 := 0) rfl rfl rfl (Nat.le_of_ble_eq_true rfl) (j_sb [0] rfl rfl) rfl d_Mod_pass_26 (fun r w1 hO => ?_)
      obtain ⟨rfl, rfl⟩ := hO
      show j_V g κ 0 0 29 [(0, .ref o), (1, .int (nI k1))] [] ([(o, .inr (6, mo a sz (nI n) ib mn pl (nI p) (nI 1) (nI n) db))])
      refine j_aload_n (pc := 29) C d_Mod_pass_29 rfl 0 rfl ?_
      refine j_aload_n (pc := 30) C d_Mod_pass_30 rfl 0 rfl ?_
      refine j_get (pc := 31) C F_Mod_143 0 rfl rfl d_Mod_pass_31 ?_
      refine j_iload_n (pc := 34) C d_Mod_pass_34 rfl 1 rfl ?_
      refine j_iaddN (pc := 35) C d_Mod_pass_35 ?_
      refine j_put (pc := 36) (ws' := [(o, .inr (6, mo a sz (nI n) ib mn pl (nI (p + k1)) (nI 1) (nI n) db))]) C Fp_Mod_143 0 rfl rfl (by first | rfl | decide) (Nat.le_of_ble_eq_true rfl) rfl d_Mod_pass_36 ?_
      exact hR.2.2 _ _ _ d_Mod_pass_39 rfl (⟨rfl, rfl⟩)
set_option maxHeartbeats 4000000 in
set_option maxRecDepth 100000 in
theorem c_Mod_pass_bad (l : Launch) (g : JX) (o : Nat) (a : Nat → Nat) (n f : Nat) (sz ib mn pl db : Int32) (q z k1 : Int32) (hf : 0 < f) (hf2 : f < 5) : j_Ct l y_Mod_pass b_Mod_pass 2 none rm_Mod_pass g ([(o, .inr (6, mo a sz (nI n) ib mn pl q (nI f) z db))]) [.ref o, .int k1] (fun r w => r = none ∧ w = [(o, .inr (6, mo a sz (nI n) ib mn pl (q + k1) (nI f) z db))]) 0 0 := by
  refine j_ct (by decide) (Nat.le_of_ble_eq_true rfl) (fun κ hkl C hR hI => ?_)
  show j_V g κ 0 0 0 [(0, .ref o), (1, .int k1)] [] ([(o, .inr (6, mo a sz (nI n) ib mn pl q (nI f) z db))])
  refine j_aload_n (pc := 0) C d_Mod_pass_0 rfl 0 rfl ?_
  refine j_get (pc := 1) C F_Mod_137 0 rfl rfl d_Mod_pass_1 ?_
  refine j_if_neN (pc := 4) (tgt := 29) C (by omega) d_Mod_pass_4 rfl (fun c4 => ?_) (fun c4 => ?_)
  · skip
    refine j_aload_n (pc := 29) C d_Mod_pass_29 rfl 0 rfl ?_
    refine j_aload_n (pc := 30) C d_Mod_pass_30 rfl 0 rfl ?_
    refine j_get (pc := 31) C F_Mod_143 0 rfl rfl d_Mod_pass_31 ?_
    refine j_iload_n (pc := 34) C d_Mod_pass_34 rfl 1 rfl ?_
    refine j_iadd (pc := 35) C d_Mod_pass_35 ?_
    refine j_put (pc := 36) (ws' := [(o, .inr (6, mo a sz (nI n) ib mn pl (q + k1) (nI f) z db))]) C Fp_Mod_143 0 rfl rfl (by first | rfl | decide) (Nat.le_of_ble_eq_true rfl) rfl d_Mod_pass_36 ?_
    exact hR.2.2 _ _ _ d_Mod_pass_39 rfl (⟨rfl, rfl⟩)
  · skip
    exfalso; omega
set_option maxHeartbeats 4000000 in
set_option maxRecDepth 100000 in
theorem c_Mod_pass (l : Launch) (g : JX) (o : Nat) (a : Nat → Nat) (n k1 : Nat) (sz ib mn pl db : Int32) (s : RS) (q z : Int32) (hn : n ≤ 2000) (hk1 : k1 < 2 ^ 30) (hs : ROk n s) : j_Ct l y_Mod_pass b_Mod_pass 2 none rm_Mod_pass g [(o, .inr (6, mo a sz (nI n) ib mn pl (rN s q) (nI (rF s)) (rW s z) db))] [.ref o, .int (nI k1)] (fun r w => ∃ q1 z1 : Int32, r = none ∧ w = [(o, .inr (6, mo a sz (nI n) ib mn pl (rN (rPass n k1 s) q1) (nI (rF (rPass n k1 s))) (rW (rPass n k1 s) z1) db))]) 0 0 := by
  rcases s with p | ⟨f, w⟩
  · by_cases h : p + k1 ≤ n
    · rw [rPass_ok h]
      exact (c_Mod_pass_ok l g o a n p k1 sz ib mn pl db z hn h).mono (fun r w h => ⟨0, z, h.1, h.2⟩)
    · rw [rPass_no (by omega)]
      exact (c_Mod_pass_no l g o a n p k1 sz ib mn pl db z hn hs hk1 (by omega)).mono (fun r w h => ⟨nI (p + k1), 0, h.1, h.2⟩)
  · exact (c_Mod_pass_bad l g o a n f sz ib mn pl db q (nI w) (nI k1) hs.1 hs.2.1).mono (fun r w h => ⟨q + nI k1, 0, h.1, h.2⟩)
abbrev rm_Mod_lowAt : Room := { frames := 0, cells := 0, slots := 0, locals := 0 }
set_option maxHeartbeats 4000000 in
set_option maxRecDepth 100000 in
theorem lp_la {g : JX} {κ : JK} {o : Nat} {a : Nat → Nat} {sz ib mn pl db q wr z : Int32} {n p k1 : Nat} {t : Nat → Nat} (hT : ∀ j, t j < 256) (hp : p + k1 ≤ 2000) (hk1 : k1 ≤ 8) (C : j_C g κ b_Mod_lowAt R_Mod rm_Mod_lowAt 6) (hR : j_R g κ b_Mod_lowAt (some .long) (fun r w => r = some (.long (lN (lf t p k1))) ∧ w = [(o, .inr (6, mo a sz (nI n) ib mn pl q wr z db)), (a 1, .inl (aI g, 2000, .inl (nf t)))]) 0 0) : ∀ (k : Nat) (r : Nat), r ≤ k1 → r + 1 ≤ k → j_V g κ (0) (0) 7 [(0, .ref o), (1, .int (nI p)), (2, .int (nI k1)), (3, .long (lN (lf t (p + r) (k1 - r)))), (5, .int (dn r))] [] ([(o, .inr (6, mo a sz (nI n) ib mn pl q wr z db)), (a 1, .inl (aI g, 2000, .inl (nf t)))]) := by
  intro k
  induction k with
  | zero =>
    intro r hr hk
    exfalso; omega
  | succ k ih =>
    intro r hr hk
    cases r with
    | zero =>
      show j_V g κ 0 0 7 [(0, .ref o), (1, .int (nI p)), (2, .int (nI k1)), (3, .long (lN (lf t (p + 0) (k1 - 0)))), (5, .int (-1 : Int32))] [] ([(o, .inr (6, mo a sz (nI n) ib mn pl q wr z db)), (a 1, .inl (aI g, 2000, .inl (nf t)))])
      refine j_iload (pc := 7) C d_Mod_lowAt_7 4 rfl ?_
      refine j_ifdn_lt (pc := 9) (tgt := 34) C d_Mod_lowAt_9 rfl ?_
      refine j_lload_n (pc := 34) C d_Mod_lowAt_34 rfl 3 rfl ?_
      exact hR.2.1 _ _ _ _ d_Mod_lowAt_35 rfl (⟨rfl, rfl⟩)
    | succ r =>
      show j_V g κ 0 0 7 [(0, .ref o), (1, .int (nI p)), (2, .int (nI k1)), (3, .long (lN (lf t (p + (r + 1)) (k1 - (r + 1))))), (5, .int (nI r))] [] ([(o, .inr (6, mo a sz (nI n) ib mn pl q wr z db)), (a 1, .inl (aI g, 2000, .inl (nf t)))])
      refine j_iload (pc := 7) C d_Mod_lowAt_7 4 rfl ?_
      refine j_if_ltN (pc := 9) (tgt := 34) C (by omega) d_Mod_lowAt_9 rfl ?_
      refine j_lload_n (pc := 12) C d_Mod_lowAt_12 rfl 3 rfl ?_
      refine j_bipush (pc := 13) (v := nI 8) C d_Mod_lowAt_13 (by decide) ?_
      refine j_lshl (pc := 15) (v := (lN (lf t (p + (r + 1)) (k1 - (r + 1)))) <<< ((nI 8).toInt64 &&& 63)) C d_Mod_lowAt_15 rfl ?_
      refine j_aload_n (pc := 16) C d_Mod_lowAt_16 rfl 0 rfl ?_
      refine j_get (pc := 17) C F_Mod_13 0 rfl rfl d_Mod_lowAt_17 ?_
      refine j_iload_n (pc := 20) C d_Mod_lowAt_20 rfl 1 rfl ?_
      refine j_iload (pc := 21) C d_Mod_lowAt_21 4 rfl ?_
      refine j_iaddN (pc := 23) C d_Mod_lowAt_23 ?_
      refine j_ialdN (pc := 24) C 1 1 rfl rfl (by omega) (by omega) d_Mod_lowAt_24 ?_
      refine j_i2l (pc := 25) (v := lN (t (p + r))) C d_Mod_lowAt_25 (nI_l (by have h9 := hT (p + r); omega)) ?_
      refine j_lor (pc := 26) C d_Mod_lowAt_26 ?_
      refine j_rwl (y := lN (lf t (p + r) (k1 - r))) (lf_push hT (by omega) (by omega)) ?_
      refine j_lstore_n (pc := 27) (lv' := [(3, .long (lN (lf t (p + r) (k1 - r)))), (0, .ref o), (1, .int (nI p)), (2, .int (nI k1)), (5, .int (nI r))]) C d_Mod_lowAt_27 rfl (by decide) rfl ?_
      refine j_iinc (pc := 28) (k := 4) (v := dn r) (lv' := [(5, .int (dn r)), (3, .long (lN (lf t (p + r) (k1 - r)))), (0, .ref o), (1, .int (nI p)), (2, .int (nI k1))]) C d_Mod_lowAt_28 rfl (dn_dec r) (by decide) rfl ?_
      refine j_goto (pc := 31) (tgt := 7) C d_Mod_lowAt_31 rfl ?_
      refine j_lv (lv' := [(0, .ref o), (1, .int (nI p)), (2, .int (nI k1)), (3, .long (lN (lf t (p + r) (k1 - r)))), (5, .int (dn r))]) [2, 3, 4, 1, 0] rfl ?_
      exact ih r (by omega) (by omega)
set_option maxHeartbeats 4000000 in
set_option maxRecDepth 100000 in
theorem c_Mod_lowAt (l : Launch) (g : JX) (o : Nat) (a : Nat → Nat) (n p k1 : Nat) (t : Nat → Nat) (sz ib mn pl db : Int32) (q wr z : Int32) (hT : ∀ j, t j < 256) (hp : p + k1 ≤ 2000) (hk1 : k1 ≤ 8) : j_Ct l y_Mod_lowAt b_Mod_lowAt 6 (some .long) rm_Mod_lowAt g ([(o, .inr (6, mo a sz (nI n) ib mn pl q wr z db)), (a 1, .inl (aI g, 2000, .inl (nf t)))]) [.ref o, .int (nI p), .int (nI k1)] (fun r w => r = some (.long (lN (lf t p k1))) ∧ w = [(o, .inr (6, mo a sz (nI n) ib mn pl q wr z db)), (a 1, .inl (aI g, 2000, .inl (nf t)))]) 0 0 := by
  refine j_ct (by decide) (Nat.le_of_ble_eq_true rfl) (fun κ hkl C hR hI => ?_)
  show j_V g κ 0 0 0 [(0, .ref o), (1, .int (nI p)), (2, .int (nI k1))] [] ([(o, .inr (6, mo a sz (nI n) ib mn pl q wr z db)), (a 1, .inl (aI g, 2000, .inl (nf t)))])
  refine j_lconst (pc := 0) (v := 0) C d_Mod_lowAt_0 (by decide) ?_
  refine j_lstore_n (pc := 1) (lv' := [(3, .long (0 : Int64)), (0, .ref o), (1, .int (nI p)), (2, .int (nI k1))]) C d_Mod_lowAt_1 rfl (by decide) rfl ?_
  refine j_iload_n (pc := 2) C d_Mod_lowAt_2 rfl 3 rfl ?_
  refine j_iconst (pc := 3) (v := nI 1) C d_Mod_lowAt_3 (by decide) ?_
  refine j_isub (pc := 4) C d_Mod_lowAt_4 ?_
  refine j_rwi (y := dn k1) (dn_sub _) ?_
  refine j_istore (pc := 5) (lv' := [(5, .int (dn k1)), (3, .long (0 : Int64)), (0, .ref o), (1, .int (nI p)), (2, .int (nI k1))]) C d_Mod_lowAt_5 (by decide) rfl ?_
  refine j_lv (lv' := [(0, .ref o), (1, .int (nI p)), (2, .int (nI k1)), (3, .long (0 : Int64)), (5, .int (dn k1))]) [2, 3, 4, 1, 0] rfl ?_
  have e := lp_la (o := o) (a := a) (sz := sz) (ib := ib) (mn := mn) (pl := pl) (db := db) (q := q) (wr := wr) (z := z) (n := n) (p := p) (k1 := k1) (t := t) hT hp hk1 C hR (k1 + 1) k1 (by omega) (by omega)
  rw [Nat.sub_self] at e
  exact e
abbrev rm_Mod_sizeOf : Room := { frames := 2, cells := 0, slots := 0, locals := 43 }
set_option maxHeartbeats 4000000 in
set_option maxRecDepth 100000 in
theorem c_Mod_sizeOf (l : Launch) (g : JX) (o : Nat) (a : Nat → Nat) (n most : Nat) (t : Nat → Nat) (sz ib mn pl db : Int32) (s : RS) (q z : Int32) (hn : n ≤ 2000) (hm : most < 2 ^ 31) (hT : ∀ j, t j < 256) (hs : ROk n s) : j_Ct l y_Mod_sizeOf b_Mod_sizeOf 8 (some .int) rm_Mod_sizeOf g ([(o, .inr (6, mo a sz (nI n) ib mn pl (rN s q) (nI (rF s)) (rW s z) db)), (a 1, .inl (aI g, 2000, .inl (nf t)))]) [.ref o, .int (nI most)] (fun r w => ∃ q1 z1 : Int32, r = some (.int (nI (rSize t n most s).1)) ∧ w = [(o, .inr (6, mo a sz (nI n) ib mn pl (rN ((rSize t n most s).2) q1) (nI (rF ((rSize t n most s).2))) (rW ((rSize t n most s).2) z1) db)), (a 1, .inl (aI g, 2000, .inl (nf t)))]) 0 0 := by
  refine j_ct (by decide) (Nat.le_of_ble_eq_true rfl) (fun κ hkl C hR hI => ?_)
  show j_V g κ 0 0 0 [(0, .ref o), (1, .int (nI most))] [] ([(o, .inr (6, mo a sz (nI n) ib mn pl (rN s q) (nI (rF s)) (rW s z) db)), (a 1, .inl (aI g, 2000, .inl (nf t)))])
  rcases s with p | ⟨f, w⟩
  · have hp : p ≤ n := hs
    show j_V g κ 0 0 0 [(0, .ref o), (1, .int (nI most))] [] ([(o, .inr (6, mo a sz (nI n) ib mn pl (nI p) (nI 0) z db)), (a 1, .inl (aI g, 2000, .inl (nf t)))])
    refine j_aload_n (pc := 0) C d_Mod_sizeOf_0 rfl 0 rfl ?_
    refine j_get (pc := 1) C F_Mod_143 0 rfl rfl d_Mod_sizeOf_1 ?_
    refine j_istore_n (pc := 4) (lv' := [(2, .int (nI p)), (0, .ref o), (1, .int (nI most))]) C d_Mod_sizeOf_4 rfl (by decide) rfl ?_
    refine j_aload_n (pc := 5) C d_Mod_sizeOf_5 rfl 1 rfl ?_
    refine j_iconst (pc := 6) (v := nI 1) C d_Mod_sizeOf_6 (by decide) ?_
    by_cases h7 : p + 1 ≤ n
    · skip
      refine j_callV (pc := 7) (As := [.int (nI 1)]) (rest := []) (wc := [(o, .inr (6, mo a sz (nI n) ib mn pl (nI p) (nI 0) z db))]) (wr := [(a 1, .inl (aI g, 2000, .inl (nf t)))]) C (c_Mod_pass_ok (kl κ) g o a n p 1 sz ib mn pl db z (by omega) (by omega)) Y_Mod_pass ml_Mod_153 im_Mod_pass sl_Mod_pass rfl ⟨by decide, by decide⟩ rfl (ci := 6) (q0 := 0) rfl rfl rfl (Nat.le_of_ble_eq_true rfl) (j_sb [0, 1] rfl rfl) rfl d_Mod_sizeOf_7 (fun r w1 hO => ?_)
      obtain ⟨rfl, rfl⟩ := hO
      show j_V g κ 0 0 10 [(2, .int (nI p)), (0, .ref o), (1, .int (nI most))] [] ([(o, .inr (6, mo a sz (nI n) ib mn pl (nI (p + 1)) (nI 0) z db)), (a 1, .inl (aI g, 2000, .inl (nf t)))])
      refine j_aload_n (pc := 10) C d_Mod_sizeOf_10 rfl 1 rfl ?_
      refine j_get (pc := 11) C F_Mod_137 0 rfl rfl d_Mod_sizeOf_11 ?_
      refine j_if_leN (pc := 14) (tgt := 19) C (by omega) d_Mod_sizeOf_14 rfl (fun c14 => ?_) (fun c14 => ?_)
      · skip
        refine j_aload_n (pc := 19) C d_Mod_sizeOf_19 rfl 1 rfl ?_
        refine j_get (pc := 20) C F_Mod_13 0 rfl rfl d_Mod_sizeOf_20 ?_
        refine j_iload_n (pc := 23) C d_Mod_sizeOf_23 rfl 0 rfl ?_
        refine j_ialdN (pc := 24) C 1 1 rfl rfl (by omega) (by omega) d_Mod_sizeOf_24 ?_
        refine j_istore_n (pc := 25) (lv' := [(3, .int (nI (t p))), (2, .int (nI p)), (0, .ref o), (1, .int (nI most))]) C d_Mod_sizeOf_25 rfl (by decide) rfl ?_
        have ht6 := hT p
        refine j_iload_n (pc := 26) C d_Mod_sizeOf_26 rfl 0 rfl ?_
        refine j_sipush (pc := 27) (v := nI 253) C d_Mod_sizeOf_27 (by decide) ?_
        refine j_icmp_geN (pc := 30) (tgt := 57) C (by omega) (by omega) d_Mod_sizeOf_30 rfl (fun c30 => ?_) (fun c30 => ?_)
        · skip
          refine j_iload_n (pc := 57) C d_Mod_sizeOf_57 rfl 0 rfl ?_
          refine j_sipush (pc := 58) (v := nI 253) C d_Mod_sizeOf_58 (by decide) ?_
          refine j_icmp_neN (pc := 61) (tgt := 68) C (by omega) (by omega) d_Mod_sizeOf_61 rfl (fun c61 => ?_) (fun c61 => ?_)
          · skip
            refine j_iload_n (pc := 68) C d_Mod_sizeOf_68 rfl 0 rfl ?_
            refine j_sipush (pc := 69) (v := nI 254) C d_Mod_sizeOf_69 (by decide) ?_
            refine j_icmp_neN (pc := 72) (tgt := 79) C (by omega) (by omega) d_Mod_sizeOf_72 rfl (fun c72 => ?_) (fun c72 => ?_)
            · skip
              have hwo : wOf (t p) = 8 := by rw [show t p = 255 by omega]; rfl
              refine j_bipush (pc := 79) (v := nI 8) C d_Mod_sizeOf_79 (by decide) ?_
              refine j_istore (pc := 81) (lv' := [(4, .int (nI 8)), (3, .int (nI (t p))), (2, .int (nI p)), (0, .ref o), (1, .int (nI most))]) C d_Mod_sizeOf_81 (by decide) rfl ?_
              refine j_aload_n (pc := 83) C d_Mod_sizeOf_83 rfl 3 rfl ?_
              refine j_iload (pc := 84) C d_Mod_sizeOf_84 0 rfl ?_
              by_cases h86 : p + 1 + 8 ≤ n
              · skip
                refine j_callV (pc := 86) (As := [.int (nI 8)]) (rest := []) (wc := [(o, .inr (6, mo a sz (nI n) ib mn pl (nI (p + 1)) (nI 0) z db))]) (wr := [(a 1, .inl (aI g, 2000, .inl (nf t)))]) C (c_Mod_pass_ok (kl κ) g o a n (p + 1) 8 sz ib mn pl db z (by omega) (by omega)) Y_Mod_pass ml_Mod_153 im_Mod_pass sl_Mod_pass rfl ⟨by decide, by decide⟩ rfl (ci := 6) (q0 := 0) rfl rfl rfl (Nat.le_of_ble_eq_true rfl) (j_sb [0, 1] rfl rfl) rfl d_Mod_sizeOf_86 (fun r w1 hO => ?_)
                obtain ⟨rfl, rfl⟩ := hO
                show j_V g κ 0 0 89 [(4, .int (nI 8)), (3, .int (nI (t p))), (2, .int (nI p)), (0, .ref o), (1, .int (nI most))] [] ([(o, .inr (6, mo a sz (nI n) ib mn pl (nI ((p + 1) + 8)) (nI 0) z db)), (a 1, .inl (aI g, 2000, .inl (nf t)))])
                refine j_aload_n (pc := 89) C d_Mod_sizeOf_89 rfl 3 rfl ?_
                refine j_get (pc := 90) C F_Mod_137 0 rfl rfl d_Mod_sizeOf_90 ?_
                refine j_if_leN (pc := 93) (tgt := 98) C (by omega) d_Mod_sizeOf_93 rfl (fun c93 => ?_) (fun c93 => ?_)
                · skip
                  refine j_aload_n (pc := 98) C d_Mod_sizeOf_98 rfl 3 rfl ?_
                  refine j_iload_n (pc := 99) C d_Mod_sizeOf_99 rfl 2 rfl ?_
                  refine j_iconst (pc := 100) (v := nI 1) C d_Mod_sizeOf_100 (by decide) ?_
                  refine j_iaddN (pc := 101) C d_Mod_sizeOf_101 ?_
                  refine j_iload (pc := 102) C d_Mod_sizeOf_102 0 rfl ?_
                  refine j_callV (pc := 104) (As := [.int (nI (p + 1)), .int (nI 8)]) (rest := []) (wc := [(o, .inr (6, mo a sz (nI n) ib mn pl (nI ((p + 1) + 8)) (nI 0) z db)), (a 1, .inl (aI g, 2000, .inl (nf t)))]) (wr := []) C (c_Mod_lowAt (kl κ) g o a n (p + 1) 8 t sz ib mn pl db (nI ((p + 1) + 8)) (nI 0) z hT (by omega) (by omega)) Y_Mod_lowAt ml_Mod_156 im_Mod_lowAt sl_Mod_lowAt rfl ⟨by decide, by decide⟩ rfl (ci := 6) (q0 := 0) rfl rfl rfl (Nat.le_of_ble_eq_true rfl) (j_sb [0, 1] rfl rfl) rfl d_Mod_sizeOf_104 (fun r w1 hO => ?_)
                  obtain ⟨rfl, rfl⟩ := hO
                  show j_V g κ 0 0 107 [(4, .int (nI 8)), (3, .int (nI (t p))), (2, .int (nI p)), (0, .ref o), (1, .int (nI most))] [.long (lN (lf t (p + 1) 8))] ([(o, .inr (6, mo a sz (nI n) ib mn pl (nI ((p + 1) + 8)) (nI 0) z db)), (a 1, .inl (aI g, 2000, .inl (nf t)))])
                  have hsz : szV t p = lf t (p + 1) 8 := by unfold szV; rw [if_neg (by omega), hwo]
                  have hVl : lf t (p + 1) 8 < 2 ^ 64 := by rw [← hsz]; exact szV_lt hT p
                  have hVw : lf t (p + 1) 8 < 256 ^ 8 := lf_lt hT 8 (p + 1)
                  refine j_lstore (pc := 107) (lv' := [(5, .long (lN (lf t (p + 1) 8))), (4, .int (nI 8)), (3, .int (nI (t p))), (2, .int (nI p)), (0, .ref o), (1, .int (nI most))]) C d_Mod_sizeOf_107 (by decide) rfl ?_
                  refine j_iload (pc := 109) C d_Mod_sizeOf_109 1 rfl ?_
                  refine j_iconst (pc := 111) (v := nI 2) C d_Mod_sizeOf_111 (by decide) ?_
                  refine j_icmp_neN (pc := 112) (tgt := 132) C (by omega) (by omega) d_Mod_sizeOf_112 rfl (fun c112 => ?_) (fun c112 => ?_)
                  · skip
                    refine j_iload (pc := 132) C d_Mod_sizeOf_132 1 rfl ?_
                    refine j_iconst (pc := 134) (v := nI 4) C d_Mod_sizeOf_134 (by decide) ?_
                    refine j_icmp_neN (pc := 135) (tgt := 155) C (by omega) (by omega) d_Mod_sizeOf_135 rfl (fun c135 => ?_) (fun c135 => ?_)
                    · skip
                      refine j_lload (pc := 155) C d_Mod_sizeOf_155 0 rfl ?_
                      refine j_lconst (pc := 157) (v := 0) C d_Mod_sizeOf_157 (by decide) ?_
                      refine j_lcmp (pc := 158) C d_Mod_sizeOf_158 ?_
                      refine j_if_lt (pc := 159) (tgt := 175) C d_Mod_sizeOf_159 rfl (fun c159 => ?_) (fun c159 => ?_)
                      · skip
                        have hnl : wOf (t p) ≤ wFit (szV t p) := by rw [hsz, hwo]; exact Nat.le_of_not_lt (fun q => by rw [wFit_lt8] at q; have := z_big hVl c159; omega)
                        refine j_iconst (pc := 175) (v := nI 0) C d_Mod_sizeOf_175 (by decide) ?_
                        refine j_istore (pc := 176) (lv' := [(7, .int (nI 0)), (5, .long (lN (lf t (p + 1) 8))), (4, .int (nI 8)), (3, .int (nI (t p))), (2, .int (nI p)), (0, .ref o), (1, .int (nI most))]) C d_Mod_sizeOf_176 (by decide) rfl ?_
                        refine j_iload (pc := 178) C d_Mod_sizeOf_178 0 rfl ?_
                        refine j_if_eqN (pc := 180) (tgt := 189) C (by omega) d_Mod_sizeOf_180 rfl (fun c180 => ?_) (fun c180 => ?_)
                        · skip
                          refine j_lload (pc := 189) C d_Mod_sizeOf_189 1 rfl ?_
                          refine j_lconst (pc := 191) (v := 0) C d_Mod_sizeOf_191 (by decide) ?_
                          refine j_lcmp (pc := 192) C d_Mod_sizeOf_192 ?_
                          refine j_if_lt (pc := 193) (tgt := 204) C d_Mod_sizeOf_193 rfl (fun c193 => ?_) (fun c193 => ?_)
                          · skip
                            have hv : most < szV t p := by rw [hsz]; exact z_1 hVl (by omega) c193
                            refine j_aload_n (pc := 204) C d_Mod_sizeOf_204 rfl 5 rfl ?_
                            refine j_iconst (pc := 205) (v := nI 3) C d_Mod_sizeOf_205 (by decide) ?_
                            refine j_iload_n (pc := 206) C d_Mod_sizeOf_206 rfl 4 rfl ?_
                            refine j_callV (pc := 207) (As := [.int (nI 3), .int (nI p)]) (rest := []) (wc := [(o, .inr (6, mo a sz (nI n) ib mn pl (nI ((p + 1) + 8)) (nI 0) z db))]) (wr := [(a 1, .inl (aI g, 2000, .inl (nf t)))]) C (c_Mod_fails (kl κ) g o a n sz ib mn pl db (nI ((p + 1) + 8)) z (nI 3) (nI p)) Y_Mod_fails ml_Mod_149 im_Mod_fails sl_Mod_fails rfl ⟨by decide, by decide⟩ rfl (ci := 6) (q0 := 0) rfl rfl rfl (Nat.le_of_ble_eq_true rfl) (j_sb [0, 1] rfl rfl) rfl d_Mod_sizeOf_207 (fun r w1 hO => ?_)
                            obtain ⟨rfl, rfl⟩ := hO
                            show j_V g κ 0 0 210 [(7, .int (nI 0)), (5, .long (lN (lf t (p + 1) 8))), (4, .int (nI 8)), (3, .int (nI (t p))), (2, .int (nI p)), (0, .ref o), (1, .int (nI most))] [] ([(o, .inr (6, mo a sz (nI n) ib mn pl (nI ((p + 1) + 8)) (nI 3) (nI p) db)), (a 1, .inl (aI g, 2000, .inl (nf t)))])
                            refine j_aload_n (pc := 210) C d_Mod_sizeOf_210 rfl 5 rfl ?_
                            refine j_get (pc := 211) C F_Mod_137 0 rfl rfl d_Mod_sizeOf_211 ?_
                            refine j_if_leN (pc := 214) (tgt := 221) C (by omega) d_Mod_sizeOf_214 rfl (fun c214 => ?_) (fun c214 => ?_)
                            · exfalso; omega
                            · skip
                              refine j_iconst (pc := 217) (v := nI 0) C d_Mod_sizeOf_217 (by decide) ?_
                              refine j_goto (pc := 218) (tgt := 224) C d_Mod_sizeOf_218 rfl ?_
                              exact hR.1 _ _ _ _ d_Mod_sizeOf_224 ⟨_, rfl, rfl⟩ (by rw [rSize_3 (by omega) hnl hv]; exact ⟨_, 0, rfl, rfl⟩)
                          · skip
                            have hz2 := z_2 hVl c193
                            refine j_lload (pc := 196) C d_Mod_sizeOf_196 1 rfl ?_
                            refine j_iload_n (pc := 198) C d_Mod_sizeOf_198 rfl 6 rfl ?_
                            refine j_i2l (pc := 199) (v := lN most) C d_Mod_sizeOf_199 (nI_l (by omega)) ?_
                            refine j_lcmp (pc := 200) C d_Mod_sizeOf_200 ?_
                            refine j_if_le (pc := 201) (tgt := 210) C d_Mod_sizeOf_201 rfl (fun c201 => ?_) (fun c201 => ?_)
                            · skip
                              have hv : szV t p ≤ most := by rw [hsz]; exact z_3 hz2 (by omega) c201
                              refine j_aload_n (pc := 210) C d_Mod_sizeOf_210 rfl 5 rfl ?_
                              refine j_get (pc := 211) C F_Mod_137 0 rfl rfl d_Mod_sizeOf_211 ?_
                              refine j_if_leN (pc := 214) (tgt := 221) C (by omega) d_Mod_sizeOf_214 rfl (fun c214 => ?_) (fun c214 => ?_)
                              · skip
                                refine j_lload (pc := 221) C d_Mod_sizeOf_221 1 rfl ?_
                                refine j_l2i (pc := 223) (v := nI (lf t (p + 1) 8)) C d_Mod_sizeOf_223 (lN_i _) ?_
                                exact hR.1 _ _ _ _ d_Mod_sizeOf_224 ⟨_, rfl, rfl⟩ (by rw [rSize_ok (by omega) hnl hv, hwo, hsz]; exact ⟨0, z, rfl, rfl⟩)
                              · exfalso; omega
                            · skip
                              have hv : most < szV t p := by rw [hsz]; exact z_4 hz2 (by omega) c201
                              refine j_aload_n (pc := 204) C d_Mod_sizeOf_204 rfl 5 rfl ?_
                              refine j_iconst (pc := 205) (v := nI 3) C d_Mod_sizeOf_205 (by decide) ?_
                              refine j_iload_n (pc := 206) C d_Mod_sizeOf_206 rfl 4 rfl ?_
                              refine j_callV (pc := 207) (As := [.int (nI 3), .int (nI p)]) (rest := []) (wc := [(o, .inr (6, mo a sz (nI n) ib mn pl (nI ((p + 1) + 8)) (nI 0) z db))]) (wr := [(a 1, .inl (aI g, 2000, .inl (nf t)))]) C (c_Mod_fails (kl κ) g o a n sz ib mn pl db (nI ((p + 1) + 8)) z (nI 3) (nI p)) Y_Mod_fails ml_Mod_149 im_Mod_fails sl_Mod_fails rfl ⟨by decide, by decide⟩ rfl (ci := 6) (q0 := 0) rfl rfl rfl (Nat.le_of_ble_eq_true rfl) (j_sb [0, 1] rfl rfl) rfl d_Mod_sizeOf_207 (fun r w1 hO => ?_)
                              obtain ⟨rfl, rfl⟩ := hO
                              show j_V g κ 0 0 210 [(7, .int (nI 0)), (5, .long (lN (lf t (p + 1) 8))), (4, .int (nI 8)), (3, .int (nI (t p))), (2, .int (nI p)), (0, .ref o), (1, .int (nI most))] [] ([(o, .inr (6, mo a sz (nI n) ib mn pl (nI ((p + 1) + 8)) (nI 3) (nI p) db)), (a 1, .inl (aI g, 2000, .inl (nf t)))])
                              refine j_aload_n (pc := 210) C d_Mod_sizeOf_210 rfl 5 rfl ?_
                              refine j_get (pc := 211) C F_Mod_137 0 rfl rfl d_Mod_sizeOf_211 ?_
                              refine j_if_leN (pc := 214) (tgt := 221) C (by omega) d_Mod_sizeOf_214 rfl (fun c214 => ?_) (fun c214 => ?_)
                              · exfalso; omega
                              · skip
                                refine j_iconst (pc := 217) (v := nI 0) C d_Mod_sizeOf_217 (by decide) ?_
                                refine j_goto (pc := 218) (tgt := 224) C d_Mod_sizeOf_218 rfl ?_
                                exact hR.1 _ _ _ _ d_Mod_sizeOf_224 ⟨_, rfl, rfl⟩ (by rw [rSize_3 (by omega) hnl hv]; exact ⟨_, 0, rfl, rfl⟩)
                        · exfalso; omega
                      · skip
                        refine j_lload (pc := 162) C d_Mod_sizeOf_162 0 rfl ?_
                        refine j_ldc2 (pc := 164) C k_Mod_92 d_Mod_sizeOf_164 ?_
                        refine j_lcmp (pc := 167) C d_Mod_sizeOf_167 ?_
                        refine j_if_ge (pc := 168) (tgt := 175) C d_Mod_sizeOf_168 rfl (fun c168 => ?_) (fun c168 => ?_)
                        · skip
                          have hnl : wOf (t p) ≤ wFit (szV t p) := by rw [hsz, hwo]; exact Nat.le_of_not_lt (fun q => by rw [wFit_lt8] at q; have := wzc_2 (c := 4294967296) rfl (z_2 hVl c159) (by decide) c168; omega)
                          refine j_iconst (pc := 175) (v := nI 0) C d_Mod_sizeOf_175 (by decide) ?_
                          refine j_istore (pc := 176) (lv' := [(7, .int (nI 0)), (5, .long (lN (lf t (p + 1) 8))), (4, .int (nI 8)), (3, .int (nI (t p))), (2, .int (nI p)), (0, .ref o), (1, .int (nI most))]) C d_Mod_sizeOf_176 (by decide) rfl ?_
                          refine j_iload (pc := 178) C d_Mod_sizeOf_178 0 rfl ?_
                          refine j_if_eqN (pc := 180) (tgt := 189) C (by omega) d_Mod_sizeOf_180 rfl (fun c180 => ?_) (fun c180 => ?_)
                          · skip
                            refine j_lload (pc := 189) C d_Mod_sizeOf_189 1 rfl ?_
                            refine j_lconst (pc := 191) (v := 0) C d_Mod_sizeOf_191 (by decide) ?_
                            refine j_lcmp (pc := 192) C d_Mod_sizeOf_192 ?_
                            refine j_if_lt (pc := 193) (tgt := 204) C d_Mod_sizeOf_193 rfl (fun c193 => ?_) (fun c193 => ?_)
                            · skip
                              have hv : most < szV t p := by rw [hsz]; exact z_1 hVl (by omega) c193
                              refine j_aload_n (pc := 204) C d_Mod_sizeOf_204 rfl 5 rfl ?_
                              refine j_iconst (pc := 205) (v := nI 3) C d_Mod_sizeOf_205 (by decide) ?_
                              refine j_iload_n (pc := 206) C d_Mod_sizeOf_206 rfl 4 rfl ?_
                              refine j_callV (pc := 207) (As := [.int (nI 3), .int (nI p)]) (rest := []) (wc := [(o, .inr (6, mo a sz (nI n) ib mn pl (nI ((p + 1) + 8)) (nI 0) z db))]) (wr := [(a 1, .inl (aI g, 2000, .inl (nf t)))]) C (c_Mod_fails (kl κ) g o a n sz ib mn pl db (nI ((p + 1) + 8)) z (nI 3) (nI p)) Y_Mod_fails ml_Mod_149 im_Mod_fails sl_Mod_fails rfl ⟨by decide, by decide⟩ rfl (ci := 6) (q0 := 0) rfl rfl rfl (Nat.le_of_ble_eq_true rfl) (j_sb [0, 1] rfl rfl) rfl d_Mod_sizeOf_207 (fun r w1 hO => ?_)
                              obtain ⟨rfl, rfl⟩ := hO
                              show j_V g κ 0 0 210 [(7, .int (nI 0)), (5, .long (lN (lf t (p + 1) 8))), (4, .int (nI 8)), (3, .int (nI (t p))), (2, .int (nI p)), (0, .ref o), (1, .int (nI most))] [] ([(o, .inr (6, mo a sz (nI n) ib mn pl (nI ((p + 1) + 8)) (nI 3) (nI p) db)), (a 1, .inl (aI g, 2000, .inl (nf t)))])
                              refine j_aload_n (pc := 210) C d_Mod_sizeOf_210 rfl 5 rfl ?_
                              refine j_get (pc := 211) C F_Mod_137 0 rfl rfl d_Mod_sizeOf_211 ?_
                              refine j_if_leN (pc := 214) (tgt := 221) C (by omega) d_Mod_sizeOf_214 rfl (fun c214 => ?_) (fun c214 => ?_)
                              · exfalso; omega
                              · skip
                                refine j_iconst (pc := 217) (v := nI 0) C d_Mod_sizeOf_217 (by decide) ?_
                                refine j_goto (pc := 218) (tgt := 224) C d_Mod_sizeOf_218 rfl ?_
                                exact hR.1 _ _ _ _ d_Mod_sizeOf_224 ⟨_, rfl, rfl⟩ (by rw [rSize_3 (by omega) hnl hv]; exact ⟨_, 0, rfl, rfl⟩)
                            · skip
                              have hz2 := z_2 hVl c193
                              refine j_lload (pc := 196) C d_Mod_sizeOf_196 1 rfl ?_
                              refine j_iload_n (pc := 198) C d_Mod_sizeOf_198 rfl 6 rfl ?_
                              refine j_i2l (pc := 199) (v := lN most) C d_Mod_sizeOf_199 (nI_l (by omega)) ?_
                              refine j_lcmp (pc := 200) C d_Mod_sizeOf_200 ?_
                              refine j_if_le (pc := 201) (tgt := 210) C d_Mod_sizeOf_201 rfl (fun c201 => ?_) (fun c201 => ?_)
                              · skip
                                have hv : szV t p ≤ most := by rw [hsz]; exact z_3 hz2 (by omega) c201
                                refine j_aload_n (pc := 210) C d_Mod_sizeOf_210 rfl 5 rfl ?_
                                refine j_get (pc := 211) C F_Mod_137 0 rfl rfl d_Mod_sizeOf_211 ?_
                                refine j_if_leN (pc := 214) (tgt := 221) C (by omega) d_Mod_sizeOf_214 rfl (fun c214 => ?_) (fun c214 => ?_)
                                · skip
                                  refine j_lload (pc := 221) C d_Mod_sizeOf_221 1 rfl ?_
                                  refine j_l2i (pc := 223) (v := nI (lf t (p + 1) 8)) C d_Mod_sizeOf_223 (lN_i _) ?_
                                  exact hR.1 _ _ _ _ d_Mod_sizeOf_224 ⟨_, rfl, rfl⟩ (by rw [rSize_ok (by omega) hnl hv, hwo, hsz]; exact ⟨0, z, rfl, rfl⟩)
                                · exfalso; omega
                              · skip
                                have hv : most < szV t p := by rw [hsz]; exact z_4 hz2 (by omega) c201
                                refine j_aload_n (pc := 204) C d_Mod_sizeOf_204 rfl 5 rfl ?_
                                refine j_iconst (pc := 205) (v := nI 3) C d_Mod_sizeOf_205 (by decide) ?_
                                refine j_iload_n (pc := 206) C d_Mod_sizeOf_206 rfl 4 rfl ?_
                                refine j_callV (pc := 207) (As := [.int (nI 3), .int (nI p)]) (rest := []) (wc := [(o, .inr (6, mo a sz (nI n) ib mn pl (nI ((p + 1) + 8)) (nI 0) z db))]) (wr := [(a 1, .inl (aI g, 2000, .inl (nf t)))]) C (c_Mod_fails (kl κ) g o a n sz ib mn pl db (nI ((p + 1) + 8)) z (nI 3) (nI p)) Y_Mod_fails ml_Mod_149 im_Mod_fails sl_Mod_fails rfl ⟨by decide, by decide⟩ rfl (ci := 6) (q0 := 0) rfl rfl rfl (Nat.le_of_ble_eq_true rfl) (j_sb [0, 1] rfl rfl) rfl d_Mod_sizeOf_207 (fun r w1 hO => ?_)
                                obtain ⟨rfl, rfl⟩ := hO
                                show j_V g κ 0 0 210 [(7, .int (nI 0)), (5, .long (lN (lf t (p + 1) 8))), (4, .int (nI 8)), (3, .int (nI (t p))), (2, .int (nI p)), (0, .ref o), (1, .int (nI most))] [] ([(o, .inr (6, mo a sz (nI n) ib mn pl (nI ((p + 1) + 8)) (nI 3) (nI p) db)), (a 1, .inl (aI g, 2000, .inl (nf t)))])
                                refine j_aload_n (pc := 210) C d_Mod_sizeOf_210 rfl 5 rfl ?_
                                refine j_get (pc := 211) C F_Mod_137 0 rfl rfl d_Mod_sizeOf_211 ?_
                                refine j_if_leN (pc := 214) (tgt := 221) C (by omega) d_Mod_sizeOf_214 rfl (fun c214 => ?_) (fun c214 => ?_)
                                · exfalso; omega
                                · skip
                                  refine j_iconst (pc := 217) (v := nI 0) C d_Mod_sizeOf_217 (by decide) ?_
                                  refine j_goto (pc := 218) (tgt := 224) C d_Mod_sizeOf_218 rfl ?_
                                  exact hR.1 _ _ _ _ d_Mod_sizeOf_224 ⟨_, rfl, rfl⟩ (by rw [rSize_3 (by omega) hnl hv]; exact ⟨_, 0, rfl, rfl⟩)
                          · exfalso; omega
                        · skip
                          have hnl : wFit (szV t p) < wOf (t p) := by rw [hsz, hwo, wFit_lt8]; exact wzc_1 (c := 4294967296) rfl (z_2 hVl c159) (by decide) c168
                          refine j_iconst (pc := 171) (v := nI 1) C d_Mod_sizeOf_171 (by decide) ?_
                          refine j_goto (pc := 172) (tgt := 176) C d_Mod_sizeOf_172 rfl ?_
                          refine j_istore (pc := 176) (lv' := [(7, .int (nI 1)), (5, .long (lN (lf t (p + 1) 8))), (4, .int (nI 8)), (3, .int (nI (t p))), (2, .int (nI p)), (0, .ref o), (1, .int (nI most))]) C d_Mod_sizeOf_176 (by decide) rfl ?_
                          refine j_iload (pc := 178) C d_Mod_sizeOf_178 0 rfl ?_
                          refine j_if_eqN (pc := 180) (tgt := 189) C (by omega) d_Mod_sizeOf_180 rfl (fun c180 => ?_) (fun c180 => ?_)
                          · exfalso; omega
                          · skip
                            refine j_aload_n (pc := 183) C d_Mod_sizeOf_183 rfl 5 rfl ?_
                            refine j_iconst (pc := 184) (v := nI 2) C d_Mod_sizeOf_184 (by decide) ?_
                            refine j_iload_n (pc := 185) C d_Mod_sizeOf_185 rfl 4 rfl ?_
                            refine j_callV (pc := 186) (As := [.int (nI 2), .int (nI p)]) (rest := []) (wc := [(o, .inr (6, mo a sz (nI n) ib mn pl (nI ((p + 1) + 8)) (nI 0) z db))]) (wr := [(a 1, .inl (aI g, 2000, .inl (nf t)))]) C (c_Mod_fails (kl κ) g o a n sz ib mn pl db (nI ((p + 1) + 8)) z (nI 2) (nI p)) Y_Mod_fails ml_Mod_149 im_Mod_fails sl_Mod_fails rfl ⟨by decide, by decide⟩ rfl (ci := 6) (q0 := 0) rfl rfl rfl (Nat.le_of_ble_eq_true rfl) (j_sb [0, 1] rfl rfl) rfl d_Mod_sizeOf_186 (fun r w1 hO => ?_)
                            obtain ⟨rfl, rfl⟩ := hO
                            show j_V g κ 0 0 189 [(7, .int (nI 1)), (5, .long (lN (lf t (p + 1) 8))), (4, .int (nI 8)), (3, .int (nI (t p))), (2, .int (nI p)), (0, .ref o), (1, .int (nI most))] [] ([(o, .inr (6, mo a sz (nI n) ib mn pl (nI ((p + 1) + 8)) (nI 2) (nI p) db)), (a 1, .inl (aI g, 2000, .inl (nf t)))])
                            refine j_lload (pc := 189) C d_Mod_sizeOf_189 1 rfl ?_
                            refine j_lconst (pc := 191) (v := 0) C d_Mod_sizeOf_191 (by decide) ?_
                            refine j_lcmp (pc := 192) C d_Mod_sizeOf_192 ?_
                            refine j_if_lt (pc := 193) (tgt := 204) C d_Mod_sizeOf_193 rfl (fun c193 => ?_) (fun c193 => ?_)
                            · skip
                              have hv : most < szV t p := by rw [hsz]; exact z_1 hVl (by omega) c193
                              refine j_aload_n (pc := 204) C d_Mod_sizeOf_204 rfl 5 rfl ?_
                              refine j_iconst (pc := 205) (v := nI 3) C d_Mod_sizeOf_205 (by decide) ?_
                              refine j_iload_n (pc := 206) C d_Mod_sizeOf_206 rfl 4 rfl ?_
                              refine j_callV (pc := 207) (As := [.int (nI 3), .int (nI p)]) (rest := []) (wc := [(o, .inr (6, mo a sz (nI n) ib mn pl (nI ((p + 1) + 8)) (nI 2) (nI p) db))]) (wr := [(a 1, .inl (aI g, 2000, .inl (nf t)))]) C (c_Mod_fails2 (kl κ) g o a n 2 sz ib mn pl db (nI ((p + 1) + 8)) (nI p) (nI 3) (nI p) (by omega) (by omega)) Y_Mod_fails ml_Mod_149 im_Mod_fails sl_Mod_fails rfl ⟨by decide, by decide⟩ rfl (ci := 6) (q0 := 0) rfl rfl rfl (Nat.le_of_ble_eq_true rfl) (j_sb [0, 1] rfl rfl) rfl d_Mod_sizeOf_207 (fun r w1 hO => ?_)
                              obtain ⟨rfl, rfl⟩ := hO
                              show j_V g κ 0 0 210 [(7, .int (nI 1)), (5, .long (lN (lf t (p + 1) 8))), (4, .int (nI 8)), (3, .int (nI (t p))), (2, .int (nI p)), (0, .ref o), (1, .int (nI most))] [] ([(o, .inr (6, mo a sz (nI n) ib mn pl (nI ((p + 1) + 8)) (nI 2) (nI p) db)), (a 1, .inl (aI g, 2000, .inl (nf t)))])
                              refine j_aload_n (pc := 210) C d_Mod_sizeOf_210 rfl 5 rfl ?_
                              refine j_get (pc := 211) C F_Mod_137 0 rfl rfl d_Mod_sizeOf_211 ?_
                              refine j_if_leN (pc := 214) (tgt := 221) C (by omega) d_Mod_sizeOf_214 rfl (fun c214 => ?_) (fun c214 => ?_)
                              · exfalso; omega
                              · skip
                                refine j_iconst (pc := 217) (v := nI 0) C d_Mod_sizeOf_217 (by decide) ?_
                                refine j_goto (pc := 218) (tgt := 224) C d_Mod_sizeOf_218 rfl ?_
                                exact hR.1 _ _ _ _ d_Mod_sizeOf_224 ⟨_, rfl, rfl⟩ (by rw [rSize_2 (by omega) hnl]; exact ⟨_, 0, rfl, rfl⟩)
                            · skip
                              have hz2 := z_2 hVl c193
                              refine j_lload (pc := 196) C d_Mod_sizeOf_196 1 rfl ?_
                              refine j_iload_n (pc := 198) C d_Mod_sizeOf_198 rfl 6 rfl ?_
                              refine j_i2l (pc := 199) (v := lN most) C d_Mod_sizeOf_199 (nI_l (by omega)) ?_
                              refine j_lcmp (pc := 200) C d_Mod_sizeOf_200 ?_
                              refine j_if_le (pc := 201) (tgt := 210) C d_Mod_sizeOf_201 rfl (fun c201 => ?_) (fun c201 => ?_)
                              · skip
                                have hv : szV t p ≤ most := by rw [hsz]; exact z_3 hz2 (by omega) c201
                                refine j_aload_n (pc := 210) C d_Mod_sizeOf_210 rfl 5 rfl ?_
                                refine j_get (pc := 211) C F_Mod_137 0 rfl rfl d_Mod_sizeOf_211 ?_
                                refine j_if_leN (pc := 214) (tgt := 221) C (by omega) d_Mod_sizeOf_214 rfl (fun c214 => ?_) (fun c214 => ?_)
                                · exfalso; omega
                                · skip
                                  refine j_iconst (pc := 217) (v := nI 0) C d_Mod_sizeOf_217 (by decide) ?_
                                  refine j_goto (pc := 218) (tgt := 224) C d_Mod_sizeOf_218 rfl ?_
                                  exact hR.1 _ _ _ _ d_Mod_sizeOf_224 ⟨_, rfl, rfl⟩ (by rw [rSize_2 (by omega) hnl]; exact ⟨_, 0, rfl, rfl⟩)
                              · skip
                                have hv : most < szV t p := by rw [hsz]; exact z_4 hz2 (by omega) c201
                                refine j_aload_n (pc := 204) C d_Mod_sizeOf_204 rfl 5 rfl ?_
                                refine j_iconst (pc := 205) (v := nI 3) C d_Mod_sizeOf_205 (by decide) ?_
                                refine j_iload_n (pc := 206) C d_Mod_sizeOf_206 rfl 4 rfl ?_
                                refine j_callV (pc := 207) (As := [.int (nI 3), .int (nI p)]) (rest := []) (wc := [(o, .inr (6, mo a sz (nI n) ib mn pl (nI ((p + 1) + 8)) (nI 2) (nI p) db))]) (wr := [(a 1, .inl (aI g, 2000, .inl (nf t)))]) C (c_Mod_fails2 (kl κ) g o a n 2 sz ib mn pl db (nI ((p + 1) + 8)) (nI p) (nI 3) (nI p) (by omega) (by omega)) Y_Mod_fails ml_Mod_149 im_Mod_fails sl_Mod_fails rfl ⟨by decide, by decide⟩ rfl (ci := 6) (q0 := 0) rfl rfl rfl (Nat.le_of_ble_eq_true rfl) (j_sb [0, 1] rfl rfl) rfl d_Mod_sizeOf_207 (fun r w1 hO => ?_)
                                obtain ⟨rfl, rfl⟩ := hO
                                show j_V g κ 0 0 210 [(7, .int (nI 1)), (5, .long (lN (lf t (p + 1) 8))), (4, .int (nI 8)), (3, .int (nI (t p))), (2, .int (nI p)), (0, .ref o), (1, .int (nI most))] [] ([(o, .inr (6, mo a sz (nI n) ib mn pl (nI ((p + 1) + 8)) (nI 2) (nI p) db)), (a 1, .inl (aI g, 2000, .inl (nf t)))])
                                refine j_aload_n (pc := 210) C d_Mod_sizeOf_210 rfl 5 rfl ?_
                                refine j_get (pc := 211) C F_Mod_137 0 rfl rfl d_Mod_sizeOf_211 ?_
                                refine j_if_leN (pc := 214) (tgt := 221) C (by omega) d_Mod_sizeOf_214 rfl (fun c214 => ?_) (fun c214 => ?_)
                                · exfalso; omega
                                · skip
                                  refine j_iconst (pc := 217) (v := nI 0) C d_Mod_sizeOf_217 (by decide) ?_
                                  refine j_goto (pc := 218) (tgt := 224) C d_Mod_sizeOf_218 rfl ?_
                                  exact hR.1 _ _ _ _ d_Mod_sizeOf_224 ⟨_, rfl, rfl⟩ (by rw [rSize_2 (by omega) hnl]; exact ⟨_, 0, rfl, rfl⟩)
                    · exfalso; omega
                  · exfalso; omega
                · exfalso; omega
              · skip
                refine j_callV (pc := 86) (As := [.int (nI 8)]) (rest := []) (wc := [(o, .inr (6, mo a sz (nI n) ib mn pl (nI (p + 1)) (nI 0) z db))]) (wr := [(a 1, .inl (aI g, 2000, .inl (nf t)))]) C (c_Mod_pass_no (kl κ) g o a n (p + 1) 8 sz ib mn pl db z (by omega) (by omega) (by omega) (by omega)) Y_Mod_pass ml_Mod_153 im_Mod_pass sl_Mod_pass rfl ⟨by decide, by decide⟩ rfl (ci := 6) (q0 := 0) rfl rfl rfl (Nat.le_of_ble_eq_true rfl) (j_sb [0, 1] rfl rfl) rfl d_Mod_sizeOf_86 (fun r w1 hO => ?_)
                obtain ⟨rfl, rfl⟩ := hO
                show j_V g κ 0 0 89 [(4, .int (nI 8)), (3, .int (nI (t p))), (2, .int (nI p)), (0, .ref o), (1, .int (nI most))] [] ([(o, .inr (6, mo a sz (nI n) ib mn pl (nI ((p + 1) + 8)) (nI 1) (nI n) db)), (a 1, .inl (aI g, 2000, .inl (nf t)))])
                refine j_aload_n (pc := 89) C d_Mod_sizeOf_89 rfl 3 rfl ?_
                refine j_get (pc := 90) C F_Mod_137 0 rfl rfl d_Mod_sizeOf_90 ?_
                refine j_if_leN (pc := 93) (tgt := 98) C (by omega) d_Mod_sizeOf_93 rfl (fun c93 => ?_) (fun c93 => ?_)
                · exfalso; omega
                · skip
                  refine j_iconst (pc := 96) (v := nI 0) C d_Mod_sizeOf_96 (by decide) ?_
                  exact hR.1 _ _ _ _ d_Mod_sizeOf_97 ⟨_, rfl, rfl⟩ (by rw [rSize_1 (Or.inl (by omega))]; exact ⟨_, 0, rfl, rfl⟩)
            · skip
              have hwo : wOf (t p) = 4 := by rw [c72]; rfl
              refine j_iconst (pc := 75) (v := nI 4) C d_Mod_sizeOf_75 (by decide) ?_
              refine j_goto (pc := 76) (tgt := 81) C d_Mod_sizeOf_76 rfl ?_
              refine j_istore (pc := 81) (lv' := [(4, .int (nI 4)), (3, .int (nI (t p))), (2, .int (nI p)), (0, .ref o), (1, .int (nI most))]) C d_Mod_sizeOf_81 (by decide) rfl ?_
              refine j_aload_n (pc := 83) C d_Mod_sizeOf_83 rfl 3 rfl ?_
              refine j_iload (pc := 84) C d_Mod_sizeOf_84 0 rfl ?_
              by_cases h86 : p + 1 + 4 ≤ n
              · skip
                refine j_callV (pc := 86) (As := [.int (nI 4)]) (rest := []) (wc := [(o, .inr (6, mo a sz (nI n) ib mn pl (nI (p + 1)) (nI 0) z db))]) (wr := [(a 1, .inl (aI g, 2000, .inl (nf t)))]) C (c_Mod_pass_ok (kl κ) g o a n (p + 1) 4 sz ib mn pl db z (by omega) (by omega)) Y_Mod_pass ml_Mod_153 im_Mod_pass sl_Mod_pass rfl ⟨by decide, by decide⟩ rfl (ci := 6) (q0 := 0) rfl rfl rfl (Nat.le_of_ble_eq_true rfl) (j_sb [0, 1] rfl rfl) rfl d_Mod_sizeOf_86 (fun r w1 hO => ?_)
                obtain ⟨rfl, rfl⟩ := hO
                show j_V g κ 0 0 89 [(4, .int (nI 4)), (3, .int (nI (t p))), (2, .int (nI p)), (0, .ref o), (1, .int (nI most))] [] ([(o, .inr (6, mo a sz (nI n) ib mn pl (nI ((p + 1) + 4)) (nI 0) z db)), (a 1, .inl (aI g, 2000, .inl (nf t)))])
                refine j_aload_n (pc := 89) C d_Mod_sizeOf_89 rfl 3 rfl ?_
                refine j_get (pc := 90) C F_Mod_137 0 rfl rfl d_Mod_sizeOf_90 ?_
                refine j_if_leN (pc := 93) (tgt := 98) C (by omega) d_Mod_sizeOf_93 rfl (fun c93 => ?_) (fun c93 => ?_)
                · skip
                  refine j_aload_n (pc := 98) C d_Mod_sizeOf_98 rfl 3 rfl ?_
                  refine j_iload_n (pc := 99) C d_Mod_sizeOf_99 rfl 2 rfl ?_
                  refine j_iconst (pc := 100) (v := nI 1) C d_Mod_sizeOf_100 (by decide) ?_
                  refine j_iaddN (pc := 101) C d_Mod_sizeOf_101 ?_
                  refine j_iload (pc := 102) C d_Mod_sizeOf_102 0 rfl ?_
                  refine j_callV (pc := 104) (As := [.int (nI (p + 1)), .int (nI 4)]) (rest := []) (wc := [(o, .inr (6, mo a sz (nI n) ib mn pl (nI ((p + 1) + 4)) (nI 0) z db)), (a 1, .inl (aI g, 2000, .inl (nf t)))]) (wr := []) C (c_Mod_lowAt (kl κ) g o a n (p + 1) 4 t sz ib mn pl db (nI ((p + 1) + 4)) (nI 0) z hT (by omega) (by omega)) Y_Mod_lowAt ml_Mod_156 im_Mod_lowAt sl_Mod_lowAt rfl ⟨by decide, by decide⟩ rfl (ci := 6) (q0 := 0) rfl rfl rfl (Nat.le_of_ble_eq_true rfl) (j_sb [0, 1] rfl rfl) rfl d_Mod_sizeOf_104 (fun r w1 hO => ?_)
                  obtain ⟨rfl, rfl⟩ := hO
                  show j_V g κ 0 0 107 [(4, .int (nI 4)), (3, .int (nI (t p))), (2, .int (nI p)), (0, .ref o), (1, .int (nI most))] [.long (lN (lf t (p + 1) 4))] ([(o, .inr (6, mo a sz (nI n) ib mn pl (nI ((p + 1) + 4)) (nI 0) z db)), (a 1, .inl (aI g, 2000, .inl (nf t)))])
                  have hsz : szV t p = lf t (p + 1) 4 := by unfold szV; rw [if_neg (by omega), hwo]
                  have hVl : lf t (p + 1) 4 < 2 ^ 64 := by rw [← hsz]; exact szV_lt hT p
                  have hVw : lf t (p + 1) 4 < 256 ^ 4 := lf_lt hT 4 (p + 1)
                  refine j_lstore (pc := 107) (lv' := [(5, .long (lN (lf t (p + 1) 4))), (4, .int (nI 4)), (3, .int (nI (t p))), (2, .int (nI p)), (0, .ref o), (1, .int (nI most))]) C d_Mod_sizeOf_107 (by decide) rfl ?_
                  refine j_iload (pc := 109) C d_Mod_sizeOf_109 1 rfl ?_
                  refine j_iconst (pc := 111) (v := nI 2) C d_Mod_sizeOf_111 (by decide) ?_
                  refine j_icmp_neN (pc := 112) (tgt := 132) C (by omega) (by omega) d_Mod_sizeOf_112 rfl (fun c112 => ?_) (fun c112 => ?_)
                  · skip
                    refine j_iload (pc := 132) C d_Mod_sizeOf_132 1 rfl ?_
                    refine j_iconst (pc := 134) (v := nI 4) C d_Mod_sizeOf_134 (by decide) ?_
                    refine j_icmp_neN (pc := 135) (tgt := 155) C (by omega) (by omega) d_Mod_sizeOf_135 rfl (fun c135 => ?_) (fun c135 => ?_)
                    · exfalso; omega
                    · skip
                      refine j_lload (pc := 138) C d_Mod_sizeOf_138 0 rfl ?_
                      refine j_ldc2 (pc := 140) C k_Mod_100 d_Mod_sizeOf_140 ?_
                      refine j_lcmp (pc := 143) C d_Mod_sizeOf_143 ?_
                      refine j_if_ge (pc := 144) (tgt := 151) C d_Mod_sizeOf_144 rfl (fun c144 => ?_) (fun c144 => ?_)
                      · skip
                        have hnl : wOf (t p) ≤ wFit (szV t p) := by rw [hsz, hwo]; exact Nat.le_of_not_lt (fun q => by rw [wFit_lt4] at q; have := wzc_2 (c := 65536) rfl (by omega) (by decide) c144; omega)
                        refine j_iconst (pc := 151) (v := nI 0) C d_Mod_sizeOf_151 (by decide) ?_
                        refine j_goto (pc := 152) (tgt := 176) C d_Mod_sizeOf_152 rfl ?_
                        refine j_istore (pc := 176) (lv' := [(7, .int (nI 0)), (5, .long (lN (lf t (p + 1) 4))), (4, .int (nI 4)), (3, .int (nI (t p))), (2, .int (nI p)), (0, .ref o), (1, .int (nI most))]) C d_Mod_sizeOf_176 (by decide) rfl ?_
                        refine j_iload (pc := 178) C d_Mod_sizeOf_178 0 rfl ?_
                        refine j_if_eqN (pc := 180) (tgt := 189) C (by omega) d_Mod_sizeOf_180 rfl (fun c180 => ?_) (fun c180 => ?_)
                        · skip
                          refine j_lload (pc := 189) C d_Mod_sizeOf_189 1 rfl ?_
                          refine j_lconst (pc := 191) (v := 0) C d_Mod_sizeOf_191 (by decide) ?_
                          refine j_lcmp (pc := 192) C d_Mod_sizeOf_192 ?_
                          refine j_if_lt (pc := 193) (tgt := 204) C d_Mod_sizeOf_193 rfl (fun c193 => ?_) (fun c193 => ?_)
                          · skip
                            have hv : most < szV t p := by rw [hsz]; exact z_1 hVl (by omega) c193
                            refine j_aload_n (pc := 204) C d_Mod_sizeOf_204 rfl 5 rfl ?_
                            refine j_iconst (pc := 205) (v := nI 3) C d_Mod_sizeOf_205 (by decide) ?_
                            refine j_iload_n (pc := 206) C d_Mod_sizeOf_206 rfl 4 rfl ?_
                            refine j_callV (pc := 207) (As := [.int (nI 3), .int (nI p)]) (rest := []) (wc := [(o, .inr (6, mo a sz (nI n) ib mn pl (nI ((p + 1) + 4)) (nI 0) z db))]) (wr := [(a 1, .inl (aI g, 2000, .inl (nf t)))]) C (c_Mod_fails (kl κ) g o a n sz ib mn pl db (nI ((p + 1) + 4)) z (nI 3) (nI p)) Y_Mod_fails ml_Mod_149 im_Mod_fails sl_Mod_fails rfl ⟨by decide, by decide⟩ rfl (ci := 6) (q0 := 0) rfl rfl rfl (Nat.le_of_ble_eq_true rfl) (j_sb [0, 1] rfl rfl) rfl d_Mod_sizeOf_207 (fun r w1 hO => ?_)
                            obtain ⟨rfl, rfl⟩ := hO
                            show j_V g κ 0 0 210 [(7, .int (nI 0)), (5, .long (lN (lf t (p + 1) 4))), (4, .int (nI 4)), (3, .int (nI (t p))), (2, .int (nI p)), (0, .ref o), (1, .int (nI most))] [] ([(o, .inr (6, mo a sz (nI n) ib mn pl (nI ((p + 1) + 4)) (nI 3) (nI p) db)), (a 1, .inl (aI g, 2000, .inl (nf t)))])
                            refine j_aload_n (pc := 210) C d_Mod_sizeOf_210 rfl 5 rfl ?_
                            refine j_get (pc := 211) C F_Mod_137 0 rfl rfl d_Mod_sizeOf_211 ?_
                            refine j_if_leN (pc := 214) (tgt := 221) C (by omega) d_Mod_sizeOf_214 rfl (fun c214 => ?_) (fun c214 => ?_)
                            · exfalso; omega
                            · skip
                              refine j_iconst (pc := 217) (v := nI 0) C d_Mod_sizeOf_217 (by decide) ?_
                              refine j_goto (pc := 218) (tgt := 224) C d_Mod_sizeOf_218 rfl ?_
                              exact hR.1 _ _ _ _ d_Mod_sizeOf_224 ⟨_, rfl, rfl⟩ (by rw [rSize_3 (by omega) hnl hv]; exact ⟨_, 0, rfl, rfl⟩)
                          · skip
                            have hz2 := z_2 hVl c193
                            refine j_lload (pc := 196) C d_Mod_sizeOf_196 1 rfl ?_
                            refine j_iload_n (pc := 198) C d_Mod_sizeOf_198 rfl 6 rfl ?_
                            refine j_i2l (pc := 199) (v := lN most) C d_Mod_sizeOf_199 (nI_l (by omega)) ?_
                            refine j_lcmp (pc := 200) C d_Mod_sizeOf_200 ?_
                            refine j_if_le (pc := 201) (tgt := 210) C d_Mod_sizeOf_201 rfl (fun c201 => ?_) (fun c201 => ?_)
                            · skip
                              have hv : szV t p ≤ most := by rw [hsz]; exact z_3 hz2 (by omega) c201
                              refine j_aload_n (pc := 210) C d_Mod_sizeOf_210 rfl 5 rfl ?_
                              refine j_get (pc := 211) C F_Mod_137 0 rfl rfl d_Mod_sizeOf_211 ?_
                              refine j_if_leN (pc := 214) (tgt := 221) C (by omega) d_Mod_sizeOf_214 rfl (fun c214 => ?_) (fun c214 => ?_)
                              · skip
                                refine j_lload (pc := 221) C d_Mod_sizeOf_221 1 rfl ?_
                                refine j_l2i (pc := 223) (v := nI (lf t (p + 1) 4)) C d_Mod_sizeOf_223 (lN_i _) ?_
                                exact hR.1 _ _ _ _ d_Mod_sizeOf_224 ⟨_, rfl, rfl⟩ (by rw [rSize_ok (by omega) hnl hv, hwo, hsz]; exact ⟨0, z, rfl, rfl⟩)
                              · exfalso; omega
                            · skip
                              have hv : most < szV t p := by rw [hsz]; exact z_4 hz2 (by omega) c201
                              refine j_aload_n (pc := 204) C d_Mod_sizeOf_204 rfl 5 rfl ?_
                              refine j_iconst (pc := 205) (v := nI 3) C d_Mod_sizeOf_205 (by decide) ?_
                              refine j_iload_n (pc := 206) C d_Mod_sizeOf_206 rfl 4 rfl ?_
                              refine j_callV (pc := 207) (As := [.int (nI 3), .int (nI p)]) (rest := []) (wc := [(o, .inr (6, mo a sz (nI n) ib mn pl (nI ((p + 1) + 4)) (nI 0) z db))]) (wr := [(a 1, .inl (aI g, 2000, .inl (nf t)))]) C (c_Mod_fails (kl κ) g o a n sz ib mn pl db (nI ((p + 1) + 4)) z (nI 3) (nI p)) Y_Mod_fails ml_Mod_149 im_Mod_fails sl_Mod_fails rfl ⟨by decide, by decide⟩ rfl (ci := 6) (q0 := 0) rfl rfl rfl (Nat.le_of_ble_eq_true rfl) (j_sb [0, 1] rfl rfl) rfl d_Mod_sizeOf_207 (fun r w1 hO => ?_)
                              obtain ⟨rfl, rfl⟩ := hO
                              show j_V g κ 0 0 210 [(7, .int (nI 0)), (5, .long (lN (lf t (p + 1) 4))), (4, .int (nI 4)), (3, .int (nI (t p))), (2, .int (nI p)), (0, .ref o), (1, .int (nI most))] [] ([(o, .inr (6, mo a sz (nI n) ib mn pl (nI ((p + 1) + 4)) (nI 3) (nI p) db)), (a 1, .inl (aI g, 2000, .inl (nf t)))])
                              refine j_aload_n (pc := 210) C d_Mod_sizeOf_210 rfl 5 rfl ?_
                              refine j_get (pc := 211) C F_Mod_137 0 rfl rfl d_Mod_sizeOf_211 ?_
                              refine j_if_leN (pc := 214) (tgt := 221) C (by omega) d_Mod_sizeOf_214 rfl (fun c214 => ?_) (fun c214 => ?_)
                              · exfalso; omega
                              · skip
                                refine j_iconst (pc := 217) (v := nI 0) C d_Mod_sizeOf_217 (by decide) ?_
                                refine j_goto (pc := 218) (tgt := 224) C d_Mod_sizeOf_218 rfl ?_
                                exact hR.1 _ _ _ _ d_Mod_sizeOf_224 ⟨_, rfl, rfl⟩ (by rw [rSize_3 (by omega) hnl hv]; exact ⟨_, 0, rfl, rfl⟩)
                        · exfalso; omega
                      · skip
                        have hnl : wFit (szV t p) < wOf (t p) := by rw [hsz, hwo, wFit_lt4]; exact wzc_1 (c := 65536) rfl (by omega) (by decide) c144
                        refine j_iconst (pc := 147) (v := nI 1) C d_Mod_sizeOf_147 (by decide) ?_
                        refine j_goto (pc := 148) (tgt := 176) C d_Mod_sizeOf_148 rfl ?_
                        refine j_istore (pc := 176) (lv' := [(7, .int (nI 1)), (5, .long (lN (lf t (p + 1) 4))), (4, .int (nI 4)), (3, .int (nI (t p))), (2, .int (nI p)), (0, .ref o), (1, .int (nI most))]) C d_Mod_sizeOf_176 (by decide) rfl ?_
                        refine j_iload (pc := 178) C d_Mod_sizeOf_178 0 rfl ?_
                        refine j_if_eqN (pc := 180) (tgt := 189) C (by omega) d_Mod_sizeOf_180 rfl (fun c180 => ?_) (fun c180 => ?_)
                        · exfalso; omega
                        · skip
                          refine j_aload_n (pc := 183) C d_Mod_sizeOf_183 rfl 5 rfl ?_
                          refine j_iconst (pc := 184) (v := nI 2) C d_Mod_sizeOf_184 (by decide) ?_
                          refine j_iload_n (pc := 185) C d_Mod_sizeOf_185 rfl 4 rfl ?_
                          refine j_callV (pc := 186) (As := [.int (nI 2), .int (nI p)]) (rest := []) (wc := [(o, .inr (6, mo a sz (nI n) ib mn pl (nI ((p + 1) + 4)) (nI 0) z db))]) (wr := [(a 1, .inl (aI g, 2000, .inl (nf t)))]) C (c_Mod_fails (kl κ) g o a n sz ib mn pl db (nI ((p + 1) + 4)) z (nI 2) (nI p)) Y_Mod_fails ml_Mod_149 im_Mod_fails sl_Mod_fails rfl ⟨by decide, by decide⟩ rfl (ci := 6) (q0 := 0) rfl rfl rfl (Nat.le_of_ble_eq_true rfl) (j_sb [0, 1] rfl rfl) rfl d_Mod_sizeOf_186 (fun r w1 hO => ?_)
                          obtain ⟨rfl, rfl⟩ := hO
                          show j_V g κ 0 0 189 [(7, .int (nI 1)), (5, .long (lN (lf t (p + 1) 4))), (4, .int (nI 4)), (3, .int (nI (t p))), (2, .int (nI p)), (0, .ref o), (1, .int (nI most))] [] ([(o, .inr (6, mo a sz (nI n) ib mn pl (nI ((p + 1) + 4)) (nI 2) (nI p) db)), (a 1, .inl (aI g, 2000, .inl (nf t)))])
                          refine j_lload (pc := 189) C d_Mod_sizeOf_189 1 rfl ?_
                          refine j_lconst (pc := 191) (v := 0) C d_Mod_sizeOf_191 (by decide) ?_
                          refine j_lcmp (pc := 192) C d_Mod_sizeOf_192 ?_
                          refine j_if_lt (pc := 193) (tgt := 204) C d_Mod_sizeOf_193 rfl (fun c193 => ?_) (fun c193 => ?_)
                          · skip
                            have hv : most < szV t p := by rw [hsz]; exact z_1 hVl (by omega) c193
                            refine j_aload_n (pc := 204) C d_Mod_sizeOf_204 rfl 5 rfl ?_
                            refine j_iconst (pc := 205) (v := nI 3) C d_Mod_sizeOf_205 (by decide) ?_
                            refine j_iload_n (pc := 206) C d_Mod_sizeOf_206 rfl 4 rfl ?_
                            refine j_callV (pc := 207) (As := [.int (nI 3), .int (nI p)]) (rest := []) (wc := [(o, .inr (6, mo a sz (nI n) ib mn pl (nI ((p + 1) + 4)) (nI 2) (nI p) db))]) (wr := [(a 1, .inl (aI g, 2000, .inl (nf t)))]) C (c_Mod_fails2 (kl κ) g o a n 2 sz ib mn pl db (nI ((p + 1) + 4)) (nI p) (nI 3) (nI p) (by omega) (by omega)) Y_Mod_fails ml_Mod_149 im_Mod_fails sl_Mod_fails rfl ⟨by decide, by decide⟩ rfl (ci := 6) (q0 := 0) rfl rfl rfl (Nat.le_of_ble_eq_true rfl) (j_sb [0, 1] rfl rfl) rfl d_Mod_sizeOf_207 (fun r w1 hO => ?_)
                            obtain ⟨rfl, rfl⟩ := hO
                            show j_V g κ 0 0 210 [(7, .int (nI 1)), (5, .long (lN (lf t (p + 1) 4))), (4, .int (nI 4)), (3, .int (nI (t p))), (2, .int (nI p)), (0, .ref o), (1, .int (nI most))] [] ([(o, .inr (6, mo a sz (nI n) ib mn pl (nI ((p + 1) + 4)) (nI 2) (nI p) db)), (a 1, .inl (aI g, 2000, .inl (nf t)))])
                            refine j_aload_n (pc := 210) C d_Mod_sizeOf_210 rfl 5 rfl ?_
                            refine j_get (pc := 211) C F_Mod_137 0 rfl rfl d_Mod_sizeOf_211 ?_
                            refine j_if_leN (pc := 214) (tgt := 221) C (by omega) d_Mod_sizeOf_214 rfl (fun c214 => ?_) (fun c214 => ?_)
                            · exfalso; omega
                            · skip
                              refine j_iconst (pc := 217) (v := nI 0) C d_Mod_sizeOf_217 (by decide) ?_
                              refine j_goto (pc := 218) (tgt := 224) C d_Mod_sizeOf_218 rfl ?_
                              exact hR.1 _ _ _ _ d_Mod_sizeOf_224 ⟨_, rfl, rfl⟩ (by rw [rSize_2 (by omega) hnl]; exact ⟨_, 0, rfl, rfl⟩)
                          · skip
                            have hz2 := z_2 hVl c193
                            refine j_lload (pc := 196) C d_Mod_sizeOf_196 1 rfl ?_
                            refine j_iload_n (pc := 198) C d_Mod_sizeOf_198 rfl 6 rfl ?_
                            refine j_i2l (pc := 199) (v := lN most) C d_Mod_sizeOf_199 (nI_l (by omega)) ?_
                            refine j_lcmp (pc := 200) C d_Mod_sizeOf_200 ?_
                            refine j_if_le (pc := 201) (tgt := 210) C d_Mod_sizeOf_201 rfl (fun c201 => ?_) (fun c201 => ?_)
                            · skip
                              have hv : szV t p ≤ most := by rw [hsz]; exact z_3 hz2 (by omega) c201
                              refine j_aload_n (pc := 210) C d_Mod_sizeOf_210 rfl 5 rfl ?_
                              refine j_get (pc := 211) C F_Mod_137 0 rfl rfl d_Mod_sizeOf_211 ?_
                              refine j_if_leN (pc := 214) (tgt := 221) C (by omega) d_Mod_sizeOf_214 rfl (fun c214 => ?_) (fun c214 => ?_)
                              · exfalso; omega
                              · skip
                                refine j_iconst (pc := 217) (v := nI 0) C d_Mod_sizeOf_217 (by decide) ?_
                                refine j_goto (pc := 218) (tgt := 224) C d_Mod_sizeOf_218 rfl ?_
                                exact hR.1 _ _ _ _ d_Mod_sizeOf_224 ⟨_, rfl, rfl⟩ (by rw [rSize_2 (by omega) hnl]; exact ⟨_, 0, rfl, rfl⟩)
                            · skip
                              have hv : most < szV t p := by rw [hsz]; exact z_4 hz2 (by omega) c201
                              refine j_aload_n (pc := 204) C d_Mod_sizeOf_204 rfl 5 rfl ?_
                              refine j_iconst (pc := 205) (v := nI 3) C d_Mod_sizeOf_205 (by decide) ?_
                              refine j_iload_n (pc := 206) C d_Mod_sizeOf_206 rfl 4 rfl ?_
                              refine j_callV (pc := 207) (As := [.int (nI 3), .int (nI p)]) (rest := []) (wc := [(o, .inr (6, mo a sz (nI n) ib mn pl (nI ((p + 1) + 4)) (nI 2) (nI p) db))]) (wr := [(a 1, .inl (aI g, 2000, .inl (nf t)))]) C (c_Mod_fails2 (kl κ) g o a n 2 sz ib mn pl db (nI ((p + 1) + 4)) (nI p) (nI 3) (nI p) (by omega) (by omega)) Y_Mod_fails ml_Mod_149 im_Mod_fails sl_Mod_fails rfl ⟨by decide, by decide⟩ rfl (ci := 6) (q0 := 0) rfl rfl rfl (Nat.le_of_ble_eq_true rfl) (j_sb [0, 1] rfl rfl) rfl d_Mod_sizeOf_207 (fun r w1 hO => ?_)
                              obtain ⟨rfl, rfl⟩ := hO
                              show j_V g κ 0 0 210 [(7, .int (nI 1)), (5, .long (lN (lf t (p + 1) 4))), (4, .int (nI 4)), (3, .int (nI (t p))), (2, .int (nI p)), (0, .ref o), (1, .int (nI most))] [] ([(o, .inr (6, mo a sz (nI n) ib mn pl (nI ((p + 1) + 4)) (nI 2) (nI p) db)), (a 1, .inl (aI g, 2000, .inl (nf t)))])
                              refine j_aload_n (pc := 210) C d_Mod_sizeOf_210 rfl 5 rfl ?_
                              refine j_get (pc := 211) C F_Mod_137 0 rfl rfl d_Mod_sizeOf_211 ?_
                              refine j_if_leN (pc := 214) (tgt := 221) C (by omega) d_Mod_sizeOf_214 rfl (fun c214 => ?_) (fun c214 => ?_)
                              · exfalso; omega
                              · skip
                                refine j_iconst (pc := 217) (v := nI 0) C d_Mod_sizeOf_217 (by decide) ?_
                                refine j_goto (pc := 218) (tgt := 224) C d_Mod_sizeOf_218 rfl ?_
                                exact hR.1 _ _ _ _ d_Mod_sizeOf_224 ⟨_, rfl, rfl⟩ (by rw [rSize_2 (by omega) hnl]; exact ⟨_, 0, rfl, rfl⟩)
                  · exfalso; omega
                · exfalso; omega
              · skip
                refine j_callV (pc := 86) (As := [.int (nI 4)]) (rest := []) (wc := [(o, .inr (6, mo a sz (nI n) ib mn pl (nI (p + 1)) (nI 0) z db))]) (wr := [(a 1, .inl (aI g, 2000, .inl (nf t)))]) C (c_Mod_pass_no (kl κ) g o a n (p + 1) 4 sz ib mn pl db z (by omega) (by omega) (by omega) (by omega)) Y_Mod_pass ml_Mod_153 im_Mod_pass sl_Mod_pass rfl ⟨by decide, by decide⟩ rfl (ci := 6) (q0 := 0) rfl rfl rfl (Nat.le_of_ble_eq_true rfl) (j_sb [0, 1] rfl rfl) rfl d_Mod_sizeOf_86 (fun r w1 hO => ?_)
                obtain ⟨rfl, rfl⟩ := hO
                show j_V g κ 0 0 89 [(4, .int (nI 4)), (3, .int (nI (t p))), (2, .int (nI p)), (0, .ref o), (1, .int (nI most))] [] ([(o, .inr (6, mo a sz (nI n) ib mn pl (nI ((p + 1) + 4)) (nI 1) (nI n) db)), (a 1, .inl (aI g, 2000, .inl (nf t)))])
                refine j_aload_n (pc := 89) C d_Mod_sizeOf_89 rfl 3 rfl ?_
                refine j_get (pc := 90) C F_Mod_137 0 rfl rfl d_Mod_sizeOf_90 ?_
                refine j_if_leN (pc := 93) (tgt := 98) C (by omega) d_Mod_sizeOf_93 rfl (fun c93 => ?_) (fun c93 => ?_)
                · exfalso; omega
                · skip
                  refine j_iconst (pc := 96) (v := nI 0) C d_Mod_sizeOf_96 (by decide) ?_
                  exact hR.1 _ _ _ _ d_Mod_sizeOf_97 ⟨_, rfl, rfl⟩ (by rw [rSize_1 (Or.inl (by omega))]; exact ⟨_, 0, rfl, rfl⟩)
          · skip
            have hwo : wOf (t p) = 2 := by rw [c61]; rfl
            refine j_iconst (pc := 64) (v := nI 2) C d_Mod_sizeOf_64 (by decide) ?_
            refine j_goto (pc := 65) (tgt := 81) C d_Mod_sizeOf_65 rfl ?_
            refine j_istore (pc := 81) (lv' := [(4, .int (nI 2)), (3, .int (nI (t p))), (2, .int (nI p)), (0, .ref o), (1, .int (nI most))]) C d_Mod_sizeOf_81 (by decide) rfl ?_
            refine j_aload_n (pc := 83) C d_Mod_sizeOf_83 rfl 3 rfl ?_
            refine j_iload (pc := 84) C d_Mod_sizeOf_84 0 rfl ?_
            by_cases h86 : p + 1 + 2 ≤ n
            · skip
              refine j_callV (pc := 86) (As := [.int (nI 2)]) (rest := []) (wc := [(o, .inr (6, mo a sz (nI n) ib mn pl (nI (p + 1)) (nI 0) z db))]) (wr := [(a 1, .inl (aI g, 2000, .inl (nf t)))]) C (c_Mod_pass_ok (kl κ) g o a n (p + 1) 2 sz ib mn pl db z (by omega) (by omega)) Y_Mod_pass ml_Mod_153 im_Mod_pass sl_Mod_pass rfl ⟨by decide, by decide⟩ rfl (ci := 6) (q0 := 0) rfl rfl rfl (Nat.le_of_ble_eq_true rfl) (j_sb [0, 1] rfl rfl) rfl d_Mod_sizeOf_86 (fun r w1 hO => ?_)
              obtain ⟨rfl, rfl⟩ := hO
              show j_V g κ 0 0 89 [(4, .int (nI 2)), (3, .int (nI (t p))), (2, .int (nI p)), (0, .ref o), (1, .int (nI most))] [] ([(o, .inr (6, mo a sz (nI n) ib mn pl (nI ((p + 1) + 2)) (nI 0) z db)), (a 1, .inl (aI g, 2000, .inl (nf t)))])
              refine j_aload_n (pc := 89) C d_Mod_sizeOf_89 rfl 3 rfl ?_
              refine j_get (pc := 90) C F_Mod_137 0 rfl rfl d_Mod_sizeOf_90 ?_
              refine j_if_leN (pc := 93) (tgt := 98) C (by omega) d_Mod_sizeOf_93 rfl (fun c93 => ?_) (fun c93 => ?_)
              · skip
                refine j_aload_n (pc := 98) C d_Mod_sizeOf_98 rfl 3 rfl ?_
                refine j_iload_n (pc := 99) C d_Mod_sizeOf_99 rfl 2 rfl ?_
                refine j_iconst (pc := 100) (v := nI 1) C d_Mod_sizeOf_100 (by decide) ?_
                refine j_iaddN (pc := 101) C d_Mod_sizeOf_101 ?_
                refine j_iload (pc := 102) C d_Mod_sizeOf_102 0 rfl ?_
                refine j_callV (pc := 104) (As := [.int (nI (p + 1)), .int (nI 2)]) (rest := []) (wc := [(o, .inr (6, mo a sz (nI n) ib mn pl (nI ((p + 1) + 2)) (nI 0) z db)), (a 1, .inl (aI g, 2000, .inl (nf t)))]) (wr := []) C (c_Mod_lowAt (kl κ) g o a n (p + 1) 2 t sz ib mn pl db (nI ((p + 1) + 2)) (nI 0) z hT (by omega) (by omega)) Y_Mod_lowAt ml_Mod_156 im_Mod_lowAt sl_Mod_lowAt rfl ⟨by decide, by decide⟩ rfl (ci := 6) (q0 := 0) rfl rfl rfl (Nat.le_of_ble_eq_true rfl) (j_sb [0, 1] rfl rfl) rfl d_Mod_sizeOf_104 (fun r w1 hO => ?_)
                obtain ⟨rfl, rfl⟩ := hO
                show j_V g κ 0 0 107 [(4, .int (nI 2)), (3, .int (nI (t p))), (2, .int (nI p)), (0, .ref o), (1, .int (nI most))] [.long (lN (lf t (p + 1) 2))] ([(o, .inr (6, mo a sz (nI n) ib mn pl (nI ((p + 1) + 2)) (nI 0) z db)), (a 1, .inl (aI g, 2000, .inl (nf t)))])
                have hsz : szV t p = lf t (p + 1) 2 := by unfold szV; rw [if_neg (by omega), hwo]
                have hVl : lf t (p + 1) 2 < 2 ^ 64 := by rw [← hsz]; exact szV_lt hT p
                have hVw : lf t (p + 1) 2 < 256 ^ 2 := lf_lt hT 2 (p + 1)
                refine j_lstore (pc := 107) (lv' := [(5, .long (lN (lf t (p + 1) 2))), (4, .int (nI 2)), (3, .int (nI (t p))), (2, .int (nI p)), (0, .ref o), (1, .int (nI most))]) C d_Mod_sizeOf_107 (by decide) rfl ?_
                refine j_iload (pc := 109) C d_Mod_sizeOf_109 1 rfl ?_
                refine j_iconst (pc := 111) (v := nI 2) C d_Mod_sizeOf_111 (by decide) ?_
                refine j_icmp_neN (pc := 112) (tgt := 132) C (by omega) (by omega) d_Mod_sizeOf_112 rfl (fun c112 => ?_) (fun c112 => ?_)
                · exfalso; omega
                · skip
                  refine j_lload (pc := 115) C d_Mod_sizeOf_115 0 rfl ?_
                  refine j_ldc2 (pc := 117) C k_Mod_159 d_Mod_sizeOf_117 ?_
                  refine j_lcmp (pc := 120) C d_Mod_sizeOf_120 ?_
                  refine j_if_ge (pc := 121) (tgt := 128) C d_Mod_sizeOf_121 rfl (fun c121 => ?_) (fun c121 => ?_)
                  · skip
                    have hnl : wOf (t p) ≤ wFit (szV t p) := by rw [hsz, hwo]; exact Nat.le_of_not_lt (fun q => by rw [wFit_lt2] at q; have := wzc_2 (c := 253) rfl (by omega) (by decide) c121; omega)
                    refine j_iconst (pc := 128) (v := nI 0) C d_Mod_sizeOf_128 (by decide) ?_
                    refine j_goto (pc := 129) (tgt := 176) C d_Mod_sizeOf_129 rfl ?_
                    refine j_istore (pc := 176) (lv' := [(7, .int (nI 0)), (5, .long (lN (lf t (p + 1) 2))), (4, .int (nI 2)), (3, .int (nI (t p))), (2, .int (nI p)), (0, .ref o), (1, .int (nI most))]) C d_Mod_sizeOf_176 (by decide) rfl ?_
                    refine j_iload (pc := 178) C d_Mod_sizeOf_178 0 rfl ?_
                    refine j_if_eqN (pc := 180) (tgt := 189) C (by omega) d_Mod_sizeOf_180 rfl (fun c180 => ?_) (fun c180 => ?_)
                    · skip
                      refine j_lload (pc := 189) C d_Mod_sizeOf_189 1 rfl ?_
                      refine j_lconst (pc := 191) (v := 0) C d_Mod_sizeOf_191 (by decide) ?_
                      refine j_lcmp (pc := 192) C d_Mod_sizeOf_192 ?_
                      refine j_if_lt (pc := 193) (tgt := 204) C d_Mod_sizeOf_193 rfl (fun c193 => ?_) (fun c193 => ?_)
                      · skip
                        have hv : most < szV t p := by rw [hsz]; exact z_1 hVl (by omega) c193
                        refine j_aload_n (pc := 204) C d_Mod_sizeOf_204 rfl 5 rfl ?_
                        refine j_iconst (pc := 205) (v := nI 3) C d_Mod_sizeOf_205 (by decide) ?_
                        refine j_iload_n (pc := 206) C d_Mod_sizeOf_206 rfl 4 rfl ?_
                        refine j_callV (pc := 207) (As := [.int (nI 3), .int (nI p)]) (rest := []) (wc := [(o, .inr (6, mo a sz (nI n) ib mn pl (nI ((p + 1) + 2)) (nI 0) z db))]) (wr := [(a 1, .inl (aI g, 2000, .inl (nf t)))]) C (c_Mod_fails (kl κ) g o a n sz ib mn pl db (nI ((p + 1) + 2)) z (nI 3) (nI p)) Y_Mod_fails ml_Mod_149 im_Mod_fails sl_Mod_fails rfl ⟨by decide, by decide⟩ rfl (ci := 6) (q0 := 0) rfl rfl rfl (Nat.le_of_ble_eq_true rfl) (j_sb [0, 1] rfl rfl) rfl d_Mod_sizeOf_207 (fun r w1 hO => ?_)
                        obtain ⟨rfl, rfl⟩ := hO
                        show j_V g κ 0 0 210 [(7, .int (nI 0)), (5, .long (lN (lf t (p + 1) 2))), (4, .int (nI 2)), (3, .int (nI (t p))), (2, .int (nI p)), (0, .ref o), (1, .int (nI most))] [] ([(o, .inr (6, mo a sz (nI n) ib mn pl (nI ((p + 1) + 2)) (nI 3) (nI p) db)), (a 1, .inl (aI g, 2000, .inl (nf t)))])
                        refine j_aload_n (pc := 210) C d_Mod_sizeOf_210 rfl 5 rfl ?_
                        refine j_get (pc := 211) C F_Mod_137 0 rfl rfl d_Mod_sizeOf_211 ?_
                        refine j_if_leN (pc := 214) (tgt := 221) C (by omega) d_Mod_sizeOf_214 rfl (fun c214 => ?_) (fun c214 => ?_)
                        · exfalso; omega
                        · skip
                          refine j_iconst (pc := 217) (v := nI 0) C d_Mod_sizeOf_217 (by decide) ?_
                          refine j_goto (pc := 218) (tgt := 224) C d_Mod_sizeOf_218 rfl ?_
                          exact hR.1 _ _ _ _ d_Mod_sizeOf_224 ⟨_, rfl, rfl⟩ (by rw [rSize_3 (by omega) hnl hv]; exact ⟨_, 0, rfl, rfl⟩)
                      · skip
                        have hz2 := z_2 hVl c193
                        refine j_lload (pc := 196) C d_Mod_sizeOf_196 1 rfl ?_
                        refine j_iload_n (pc := 198) C d_Mod_sizeOf_198 rfl 6 rfl ?_
                        refine j_i2l (pc := 199) (v := lN most) C d_Mod_sizeOf_199 (nI_l (by omega)) ?_
                        refine j_lcmp (pc := 200) C d_Mod_sizeOf_200 ?_
                        refine j_if_le (pc := 201) (tgt := 210) C d_Mod_sizeOf_201 rfl (fun c201 => ?_) (fun c201 => ?_)
                        · skip
                          have hv : szV t p ≤ most := by rw [hsz]; exact z_3 hz2 (by omega) c201
                          refine j_aload_n (pc := 210) C d_Mod_sizeOf_210 rfl 5 rfl ?_
                          refine j_get (pc := 211) C F_Mod_137 0 rfl rfl d_Mod_sizeOf_211 ?_
                          refine j_if_leN (pc := 214) (tgt := 221) C (by omega) d_Mod_sizeOf_214 rfl (fun c214 => ?_) (fun c214 => ?_)
                          · skip
                            refine j_lload (pc := 221) C d_Mod_sizeOf_221 1 rfl ?_
                            refine j_l2i (pc := 223) (v := nI (lf t (p + 1) 2)) C d_Mod_sizeOf_223 (lN_i _) ?_
                            exact hR.1 _ _ _ _ d_Mod_sizeOf_224 ⟨_, rfl, rfl⟩ (by rw [rSize_ok (by omega) hnl hv, hwo, hsz]; exact ⟨0, z, rfl, rfl⟩)
                          · exfalso; omega
                        · skip
                          have hv : most < szV t p := by rw [hsz]; exact z_4 hz2 (by omega) c201
                          refine j_aload_n (pc := 204) C d_Mod_sizeOf_204 rfl 5 rfl ?_
                          refine j_iconst (pc := 205) (v := nI 3) C d_Mod_sizeOf_205 (by decide) ?_
                          refine j_iload_n (pc := 206) C d_Mod_sizeOf_206 rfl 4 rfl ?_
                          refine j_callV (pc := 207) (As := [.int (nI 3), .int (nI p)]) (rest := []) (wc := [(o, .inr (6, mo a sz (nI n) ib mn pl (nI ((p + 1) + 2)) (nI 0) z db))]) (wr := [(a 1, .inl (aI g, 2000, .inl (nf t)))]) C (c_Mod_fails (kl κ) g o a n sz ib mn pl db (nI ((p + 1) + 2)) z (nI 3) (nI p)) Y_Mod_fails ml_Mod_149 im_Mod_fails sl_Mod_fails rfl ⟨by decide, by decide⟩ rfl (ci := 6) (q0 := 0) rfl rfl rfl (Nat.le_of_ble_eq_true rfl) (j_sb [0, 1] rfl rfl) rfl d_Mod_sizeOf_207 (fun r w1 hO => ?_)
                          obtain ⟨rfl, rfl⟩ := hO
                          show j_V g κ 0 0 210 [(7, .int (nI 0)), (5, .long (lN (lf t (p + 1) 2))), (4, .int (nI 2)), (3, .int (nI (t p))), (2, .int (nI p)), (0, .ref o), (1, .int (nI most))] [] ([(o, .inr (6, mo a sz (nI n) ib mn pl (nI ((p + 1) + 2)) (nI 3) (nI p) db)), (a 1, .inl (aI g, 2000, .inl (nf t)))])
                          refine j_aload_n (pc := 210) C d_Mod_sizeOf_210 rfl 5 rfl ?_
                          refine j_get (pc := 211) C F_Mod_137 0 rfl rfl d_Mod_sizeOf_211 ?_
                          refine j_if_leN (pc := 214) (tgt := 221) C (by omega) d_Mod_sizeOf_214 rfl (fun c214 => ?_) (fun c214 => ?_)
                          · exfalso; omega
                          · skip
                            refine j_iconst (pc := 217) (v := nI 0) C d_Mod_sizeOf_217 (by decide) ?_
                            refine j_goto (pc := 218) (tgt := 224) C d_Mod_sizeOf_218 rfl ?_
                            exact hR.1 _ _ _ _ d_Mod_sizeOf_224 ⟨_, rfl, rfl⟩ (by rw [rSize_3 (by omega) hnl hv]; exact ⟨_, 0, rfl, rfl⟩)
                    · exfalso; omega
                  · skip
                    have hnl : wFit (szV t p) < wOf (t p) := by rw [hsz, hwo, wFit_lt2]; exact wzc_1 (c := 253) rfl (by omega) (by decide) c121
                    refine j_iconst (pc := 124) (v := nI 1) C d_Mod_sizeOf_124 (by decide) ?_
                    refine j_goto (pc := 125) (tgt := 176) C d_Mod_sizeOf_125 rfl ?_
                    refine j_istore (pc := 176) (lv' := [(7, .int (nI 1)), (5, .long (lN (lf t (p + 1) 2))), (4, .int (nI 2)), (3, .int (nI (t p))), (2, .int (nI p)), (0, .ref o), (1, .int (nI most))]) C d_Mod_sizeOf_176 (by decide) rfl ?_
                    refine j_iload (pc := 178) C d_Mod_sizeOf_178 0 rfl ?_
                    refine j_if_eqN (pc := 180) (tgt := 189) C (by omega) d_Mod_sizeOf_180 rfl (fun c180 => ?_) (fun c180 => ?_)
                    · exfalso; omega
                    · skip
                      refine j_aload_n (pc := 183) C d_Mod_sizeOf_183 rfl 5 rfl ?_
                      refine j_iconst (pc := 184) (v := nI 2) C d_Mod_sizeOf_184 (by decide) ?_
                      refine j_iload_n (pc := 185) C d_Mod_sizeOf_185 rfl 4 rfl ?_
                      refine j_callV (pc := 186) (As := [.int (nI 2), .int (nI p)]) (rest := []) (wc := [(o, .inr (6, mo a sz (nI n) ib mn pl (nI ((p + 1) + 2)) (nI 0) z db))]) (wr := [(a 1, .inl (aI g, 2000, .inl (nf t)))]) C (c_Mod_fails (kl κ) g o a n sz ib mn pl db (nI ((p + 1) + 2)) z (nI 2) (nI p)) Y_Mod_fails ml_Mod_149 im_Mod_fails sl_Mod_fails rfl ⟨by decide, by decide⟩ rfl (ci := 6) (q0 := 0) rfl rfl rfl (Nat.le_of_ble_eq_true rfl) (j_sb [0, 1] rfl rfl) rfl d_Mod_sizeOf_186 (fun r w1 hO => ?_)
                      obtain ⟨rfl, rfl⟩ := hO
                      show j_V g κ 0 0 189 [(7, .int (nI 1)), (5, .long (lN (lf t (p + 1) 2))), (4, .int (nI 2)), (3, .int (nI (t p))), (2, .int (nI p)), (0, .ref o), (1, .int (nI most))] [] ([(o, .inr (6, mo a sz (nI n) ib mn pl (nI ((p + 1) + 2)) (nI 2) (nI p) db)), (a 1, .inl (aI g, 2000, .inl (nf t)))])
                      refine j_lload (pc := 189) C d_Mod_sizeOf_189 1 rfl ?_
                      refine j_lconst (pc := 191) (v := 0) C d_Mod_sizeOf_191 (by decide) ?_
                      refine j_lcmp (pc := 192) C d_Mod_sizeOf_192 ?_
                      refine j_if_lt (pc := 193) (tgt := 204) C d_Mod_sizeOf_193 rfl (fun c193 => ?_) (fun c193 => ?_)
                      · skip
                        have hv : most < szV t p := by rw [hsz]; exact z_1 hVl (by omega) c193
                        refine j_aload_n (pc := 204) C d_Mod_sizeOf_204 rfl 5 rfl ?_
                        refine j_iconst (pc := 205) (v := nI 3) C d_Mod_sizeOf_205 (by decide) ?_
                        refine j_iload_n (pc := 206) C d_Mod_sizeOf_206 rfl 4 rfl ?_
                        refine j_callV (pc := 207) (As := [.int (nI 3), .int (nI p)]) (rest := []) (wc := [(o, .inr (6, mo a sz (nI n) ib mn pl (nI ((p + 1) + 2)) (nI 2) (nI p) db))]) (wr := [(a 1, .inl (aI g, 2000, .inl (nf t)))]) C (c_Mod_fails2 (kl κ) g o a n 2 sz ib mn pl db (nI ((p + 1) + 2)) (nI p) (nI 3) (nI p) (by omega) (by omega)) Y_Mod_fails ml_Mod_149 im_Mod_fails sl_Mod_fails rfl ⟨by decide, by decide⟩ rfl (ci := 6) (q0 := 0) rfl rfl rfl (Nat.le_of_ble_eq_true rfl) (j_sb [0, 1] rfl rfl) rfl d_Mod_sizeOf_207 (fun r w1 hO => ?_)
                        obtain ⟨rfl, rfl⟩ := hO
                        show j_V g κ 0 0 210 [(7, .int (nI 1)), (5, .long (lN (lf t (p + 1) 2))), (4, .int (nI 2)), (3, .int (nI (t p))), (2, .int (nI p)), (0, .ref o), (1, .int (nI most))] [] ([(o, .inr (6, mo a sz (nI n) ib mn pl (nI ((p + 1) + 2)) (nI 2) (nI p) db)), (a 1, .inl (aI g, 2000, .inl (nf t)))])
                        refine j_aload_n (pc := 210) C d_Mod_sizeOf_210 rfl 5 rfl ?_
                        refine j_get (pc := 211) C F_Mod_137 0 rfl rfl d_Mod_sizeOf_211 ?_
                        refine j_if_leN (pc := 214) (tgt := 221) C (by omega) d_Mod_sizeOf_214 rfl (fun c214 => ?_) (fun c214 => ?_)
                        · exfalso; omega
                        · skip
                          refine j_iconst (pc := 217) (v := nI 0) C d_Mod_sizeOf_217 (by decide) ?_
                          refine j_goto (pc := 218) (tgt := 224) C d_Mod_sizeOf_218 rfl ?_
                          exact hR.1 _ _ _ _ d_Mod_sizeOf_224 ⟨_, rfl, rfl⟩ (by rw [rSize_2 (by omega) hnl]; exact ⟨_, 0, rfl, rfl⟩)
                      · skip
                        have hz2 := z_2 hVl c193
                        refine j_lload (pc := 196) C d_Mod_sizeOf_196 1 rfl ?_
                        refine j_iload_n (pc := 198) C d_Mod_sizeOf_198 rfl 6 rfl ?_
                        refine j_i2l (pc := 199) (v := lN most) C d_Mod_sizeOf_199 (nI_l (by omega)) ?_
                        refine j_lcmp (pc := 200) C d_Mod_sizeOf_200 ?_
                        refine j_if_le (pc := 201) (tgt := 210) C d_Mod_sizeOf_201 rfl (fun c201 => ?_) (fun c201 => ?_)
                        · skip
                          have hv : szV t p ≤ most := by rw [hsz]; exact z_3 hz2 (by omega) c201
                          refine j_aload_n (pc := 210) C d_Mod_sizeOf_210 rfl 5 rfl ?_
                          refine j_get (pc := 211) C F_Mod_137 0 rfl rfl d_Mod_sizeOf_211 ?_
                          refine j_if_leN (pc := 214) (tgt := 221) C (by omega) d_Mod_sizeOf_214 rfl (fun c214 => ?_) (fun c214 => ?_)
                          · exfalso; omega
                          · skip
                            refine j_iconst (pc := 217) (v := nI 0) C d_Mod_sizeOf_217 (by decide) ?_
                            refine j_goto (pc := 218) (tgt := 224) C d_Mod_sizeOf_218 rfl ?_
                            exact hR.1 _ _ _ _ d_Mod_sizeOf_224 ⟨_, rfl, rfl⟩ (by rw [rSize_2 (by omega) hnl]; exact ⟨_, 0, rfl, rfl⟩)
                        · skip
                          have hv : most < szV t p := by rw [hsz]; exact z_4 hz2 (by omega) c201
                          refine j_aload_n (pc := 204) C d_Mod_sizeOf_204 rfl 5 rfl ?_
                          refine j_iconst (pc := 205) (v := nI 3) C d_Mod_sizeOf_205 (by decide) ?_
                          refine j_iload_n (pc := 206) C d_Mod_sizeOf_206 rfl 4 rfl ?_
                          refine j_callV (pc := 207) (As := [.int (nI 3), .int (nI p)]) (rest := []) (wc := [(o, .inr (6, mo a sz (nI n) ib mn pl (nI ((p + 1) + 2)) (nI 2) (nI p) db))]) (wr := [(a 1, .inl (aI g, 2000, .inl (nf t)))]) C (c_Mod_fails2 (kl κ) g o a n 2 sz ib mn pl db (nI ((p + 1) + 2)) (nI p) (nI 3) (nI p) (by omega) (by omega)) Y_Mod_fails ml_Mod_149 im_Mod_fails sl_Mod_fails rfl ⟨by decide, by decide⟩ rfl (ci := 6) (q0 := 0) rfl rfl rfl (Nat.le_of_ble_eq_true rfl) (j_sb [0, 1] rfl rfl) rfl d_Mod_sizeOf_207 (fun r w1 hO => ?_)
                          obtain ⟨rfl, rfl⟩ := hO
                          show j_V g κ 0 0 210 [(7, .int (nI 1)), (5, .long (lN (lf t (p + 1) 2))), (4, .int (nI 2)), (3, .int (nI (t p))), (2, .int (nI p)), (0, .ref o), (1, .int (nI most))] [] ([(o, .inr (6, mo a sz (nI n) ib mn pl (nI ((p + 1) + 2)) (nI 2) (nI p) db)), (a 1, .inl (aI g, 2000, .inl (nf t)))])
                          refine j_aload_n (pc := 210) C d_Mod_sizeOf_210 rfl 5 rfl ?_
                          refine j_get (pc := 211) C F_Mod_137 0 rfl rfl d_Mod_sizeOf_211 ?_
                          refine j_if_leN (pc := 214) (tgt := 221) C (by omega) d_Mod_sizeOf_214 rfl (fun c214 => ?_) (fun c214 => ?_)
                          · exfalso; omega
                          · skip
                            refine j_iconst (pc := 217) (v := nI 0) C d_Mod_sizeOf_217 (by decide) ?_
                            refine j_goto (pc := 218) (tgt := 224) C d_Mod_sizeOf_218 rfl ?_
                            exact hR.1 _ _ _ _ d_Mod_sizeOf_224 ⟨_, rfl, rfl⟩ (by rw [rSize_2 (by omega) hnl]; exact ⟨_, 0, rfl, rfl⟩)
              · exfalso; omega
            · skip
              refine j_callV (pc := 86) (As := [.int (nI 2)]) (rest := []) (wc := [(o, .inr (6, mo a sz (nI n) ib mn pl (nI (p + 1)) (nI 0) z db))]) (wr := [(a 1, .inl (aI g, 2000, .inl (nf t)))]) C (c_Mod_pass_no (kl κ) g o a n (p + 1) 2 sz ib mn pl db z (by omega) (by omega) (by omega) (by omega)) Y_Mod_pass ml_Mod_153 im_Mod_pass sl_Mod_pass rfl ⟨by decide, by decide⟩ rfl (ci := 6) (q0 := 0) rfl rfl rfl (Nat.le_of_ble_eq_true rfl) (j_sb [0, 1] rfl rfl) rfl d_Mod_sizeOf_86 (fun r w1 hO => ?_)
              obtain ⟨rfl, rfl⟩ := hO
              show j_V g κ 0 0 89 [(4, .int (nI 2)), (3, .int (nI (t p))), (2, .int (nI p)), (0, .ref o), (1, .int (nI most))] [] ([(o, .inr (6, mo a sz (nI n) ib mn pl (nI ((p + 1) + 2)) (nI 1) (nI n) db)), (a 1, .inl (aI g, 2000, .inl (nf t)))])
              refine j_aload_n (pc := 89) C d_Mod_sizeOf_89 rfl 3 rfl ?_
              refine j_get (pc := 90) C F_Mod_137 0 rfl rfl d_Mod_sizeOf_90 ?_
              refine j_if_leN (pc := 93) (tgt := 98) C (by omega) d_Mod_sizeOf_93 rfl (fun c93 => ?_) (fun c93 => ?_)
              · exfalso; omega
              · skip
                refine j_iconst (pc := 96) (v := nI 0) C d_Mod_sizeOf_96 (by decide) ?_
                exact hR.1 _ _ _ _ d_Mod_sizeOf_97 ⟨_, rfl, rfl⟩ (by rw [rSize_1 (Or.inl (by omega))]; exact ⟨_, 0, rfl, rfl⟩)
        · skip
          have hwo : wOf (t p) = 0 := (wOf_0 (hT p)).mpr c30
          have hsz : szV t p = t p := by unfold szV; rw [if_pos hwo]
          have hnl : wOf (t p) ≤ wFit (szV t p) := by rw [hwo]; exact Nat.zero_le _
          refine j_iload_n (pc := 33) C d_Mod_sizeOf_33 rfl 0 rfl ?_
          refine j_iload_n (pc := 34) C d_Mod_sizeOf_34 rfl 3 rfl ?_
          refine j_icmp_leN (pc := 35) (tgt := 44) C (by omega) (by omega) d_Mod_sizeOf_35 rfl (fun c35 => ?_) (fun c35 => ?_)
          · skip
            have hv : szV t p ≤ most := by rw [hsz]; exact c35
            refine j_aload_n (pc := 44) C d_Mod_sizeOf_44 rfl 2 rfl ?_
            refine j_get (pc := 45) C F_Mod_137 0 rfl rfl d_Mod_sizeOf_45 ?_
            refine j_if_leN (pc := 48) (tgt := 55) C (by omega) d_Mod_sizeOf_48 rfl (fun c48 => ?_) (fun c48 => ?_)
            · skip
              refine j_iload_n (pc := 55) C d_Mod_sizeOf_55 rfl 0 rfl ?_
              exact hR.1 _ _ _ _ d_Mod_sizeOf_56 ⟨_, rfl, rfl⟩ (by rw [rSize_ok (by omega) hnl hv, hwo, hsz]; exact ⟨0, z, rfl, rfl⟩)
            · exfalso; omega
          · skip
            have hv : most < szV t p := by rw [hsz]; exact c35
            refine j_aload_n (pc := 38) C d_Mod_sizeOf_38 rfl 2 rfl ?_
            refine j_iconst (pc := 39) (v := nI 3) C d_Mod_sizeOf_39 (by decide) ?_
            refine j_iload_n (pc := 40) C d_Mod_sizeOf_40 rfl 1 rfl ?_
            refine j_callV (pc := 41) (As := [.int (nI 3), .int (nI p)]) (rest := []) (wc := [(o, .inr (6, mo a sz (nI n) ib mn pl (nI (p + 1)) (nI 0) z db))]) (wr := [(a 1, .inl (aI g, 2000, .inl (nf t)))]) C (c_Mod_fails (kl κ) g o a n sz ib mn pl db (nI (p + 1)) z (nI 3) (nI p)) Y_Mod_fails ml_Mod_149 im_Mod_fails sl_Mod_fails rfl ⟨by decide, by decide⟩ rfl (ci := 6) (q0 := 0) rfl rfl rfl (Nat.le_of_ble_eq_true rfl) (j_sb [0, 1] rfl rfl) rfl d_Mod_sizeOf_41 (fun r w1 hO => ?_)
            obtain ⟨rfl, rfl⟩ := hO
            show j_V g κ 0 0 44 [(3, .int (nI (t p))), (2, .int (nI p)), (0, .ref o), (1, .int (nI most))] [] ([(o, .inr (6, mo a sz (nI n) ib mn pl (nI (p + 1)) (nI 3) (nI p) db)), (a 1, .inl (aI g, 2000, .inl (nf t)))])
            refine j_aload_n (pc := 44) C d_Mod_sizeOf_44 rfl 2 rfl ?_
            refine j_get (pc := 45) C F_Mod_137 0 rfl rfl d_Mod_sizeOf_45 ?_
            refine j_if_leN (pc := 48) (tgt := 55) C (by omega) d_Mod_sizeOf_48 rfl (fun c48 => ?_) (fun c48 => ?_)
            · exfalso; omega
            · skip
              refine j_iconst (pc := 51) (v := nI 0) C d_Mod_sizeOf_51 (by decide) ?_
              refine j_goto (pc := 52) (tgt := 56) C d_Mod_sizeOf_52 rfl ?_
              exact hR.1 _ _ _ _ d_Mod_sizeOf_56 ⟨_, rfl, rfl⟩ (by rw [rSize_3 (by omega) hnl hv]; exact ⟨_, 0, rfl, rfl⟩)
      · exfalso; omega
    · skip
      refine j_callV (pc := 7) (As := [.int (nI 1)]) (rest := []) (wc := [(o, .inr (6, mo a sz (nI n) ib mn pl (nI p) (nI 0) z db))]) (wr := [(a 1, .inl (aI g, 2000, .inl (nf t)))]) C (c_Mod_pass_no (kl κ) g o a n p 1 sz ib mn pl db z (by omega) (by omega) (by omega) (by omega)) Y_Mod_pass ml_Mod_153 im_Mod_pass sl_Mod_pass rfl ⟨by decide, by decide⟩ rfl (ci := 6) (q0 := 0) rfl rfl rfl (Nat.le_of_ble_eq_true rfl) (j_sb [0, 1] rfl rfl) rfl d_Mod_sizeOf_7 (fun r w1 hO => ?_)
      obtain ⟨rfl, rfl⟩ := hO
      show j_V g κ 0 0 10 [(2, .int (nI p)), (0, .ref o), (1, .int (nI most))] [] ([(o, .inr (6, mo a sz (nI n) ib mn pl (nI (p + 1)) (nI 1) (nI n) db)), (a 1, .inl (aI g, 2000, .inl (nf t)))])
      refine j_aload_n (pc := 10) C d_Mod_sizeOf_10 rfl 1 rfl ?_
      refine j_get (pc := 11) C F_Mod_137 0 rfl rfl d_Mod_sizeOf_11 ?_
      refine j_if_leN (pc := 14) (tgt := 19) C (by omega) d_Mod_sizeOf_14 rfl (fun c14 => ?_) (fun c14 => ?_)
      · exfalso; omega
      · skip
        refine j_iconst (pc := 17) (v := nI 0) C d_Mod_sizeOf_17 (by decide) ?_
        exact hR.1 _ _ _ _ d_Mod_sizeOf_18 ⟨_, rfl, rfl⟩ (by rw [rSize_1 (Or.inr (by omega))]; exact ⟨_, 0, rfl, rfl⟩)
  · obtain ⟨hf, hf2, hw⟩ : 0 < f ∧ f < 5 ∧ w ≤ n := hs
    show j_V g κ 0 0 0 [(0, .ref o), (1, .int (nI most))] [] ([(o, .inr (6, mo a sz (nI n) ib mn pl q (nI f) (nI w) db)), (a 1, .inl (aI g, 2000, .inl (nf t)))])
    refine j_aload_n (pc := 0) C d_Mod_sizeOf_0 rfl 0 rfl ?_
    refine j_get (pc := 1) C F_Mod_143 0 rfl rfl d_Mod_sizeOf_1 ?_
    refine j_istore_n (pc := 4) (lv' := [(2, .int q), (0, .ref o), (1, .int (nI most))]) C d_Mod_sizeOf_4 rfl (by decide) rfl ?_
    refine j_aload_n (pc := 5) C d_Mod_sizeOf_5 rfl 1 rfl ?_
    refine j_iconst (pc := 6) (v := nI 1) C d_Mod_sizeOf_6 (by decide) ?_
    refine j_callV (pc := 7) (As := [.int (nI 1)]) (rest := []) (wc := [(o, .inr (6, mo a sz (nI n) ib mn pl q (nI f) (nI w) db))]) (wr := [(a 1, .inl (aI g, 2000, .inl (nf t)))]) C (c_Mod_pass_bad (kl κ) g o a n f sz ib mn pl db q (nI w) (nI 1) (by omega) (by omega)) Y_Mod_pass ml_Mod_153 im_Mod_pass sl_Mod_pass rfl ⟨by decide, by decide⟩ rfl (ci := 6) (q0 := 0) rfl rfl rfl (Nat.le_of_ble_eq_true rfl) (j_sb [0, 1] rfl rfl) rfl d_Mod_sizeOf_7 (fun r w1 hO => ?_)
    obtain ⟨rfl, rfl⟩ := hO
    show j_V g κ 0 0 10 [(2, .int q), (0, .ref o), (1, .int (nI most))] [] ([(o, .inr (6, mo a sz (nI n) ib mn pl (q + (nI 1)) (nI f) (nI w) db)), (a 1, .inl (aI g, 2000, .inl (nf t)))])
    refine j_aload_n (pc := 10) C d_Mod_sizeOf_10 rfl 1 rfl ?_
    refine j_get (pc := 11) C F_Mod_137 0 rfl rfl d_Mod_sizeOf_11 ?_
    refine j_if_leN (pc := 14) (tgt := 19) C (by omega) d_Mod_sizeOf_14 rfl (fun c14 => ?_) (fun c14 => ?_)
    · skip
      exfalso; omega
    · skip
      refine j_iconst (pc := 17) (v := nI 0) C d_Mod_sizeOf_17 (by decide) ?_
      exact hR.1 _ _ _ _ d_Mod_sizeOf_18 ⟨_, rfl, rfl⟩ (⟨_, 0, rfl, rfl⟩)
