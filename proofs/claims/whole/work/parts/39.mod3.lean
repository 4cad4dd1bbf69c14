abbrev rm_Mod_lay : Room := { frames := 0, cells := 0, slots := 0, locals := 0 }
set_option maxHeartbeats 4000000 in
set_option maxRecDepth 100000 in
theorem lp_lay_hi {g : JX} {κ : JK} {o n k1 : Nat} {a : Nat → Nat} {t : Nat → Nat} {v : Int64} {le ib mn pl db q wr z : Int32} (hn : n + k1 ≤ 2000) (hk1 : k1 ≤ 8) (C : j_C g κ b_Mod_lay R_Mod rm_Mod_lay 6) (hR : j_R g κ b_Mod_lay (some .boolean) (fun r w => r = some (.int 1) ∧ w = [(o, .inr (6, mo a (nI (n + k1)) le ib mn pl q wr z db)), (a 0, .inl (aI g, 2000, .inl (nf (putF t n k1 (hiS v k1)))))]) 0 0) : ∀ (k : Nat) (m : Nat), m ≤ k1 → k1 + 1 ≤ m + k → j_V g κ (0) (0) 28 [(0, .ref o), (1, .long v), (3, .int (nI k1)), (4, .int (nI 0)), (5, .int (nI m))] [] ([(o, .inr (6, mo a (nI n) le ib mn pl q wr z db)), (a 0, .inl (aI g, 2000, .inl (nf (putF t n m (hiS v k1)))))]) := by
  intro k
  induction k with
  | zero =>
    intro m hm hk
    exfalso; omega
  | succ k ih =>
    intro m hm hk
    refine j_iload (pc := 28) C d_Mod_lay_28 4 rfl ?_
    refine j_iload_n (pc := 30) C d_Mod_lay_30 rfl 2 rfl ?_
    refine j_icmp_geN (pc := 31) (tgt := 78) C (by omega) (by omega) d_Mod_lay_31 rfl (fun c31 => ?_) (fun c31 => ?_)
    · skip
      refine j_aload_n (pc := 78) C d_Mod_lay_78 rfl 0 rfl ?_
      refine j_aload_n (pc := 79) C d_Mod_lay_79 rfl 0 rfl ?_
      refine j_get (pc := 80) C F_Mod_169 0 rfl rfl d_Mod_lay_80 ?_
      refine j_iload_n (pc := 83) C d_Mod_lay_83 rfl 2 rfl ?_
      refine j_iaddN (pc := 84) C d_Mod_lay_84 ?_
      refine j_put (pc := 85) (ws' := [(o, .inr (6, mo a (nI (n + k1)) le ib mn pl q wr z db)), (a 0, .inl (aI g, 2000, .inl (nf (putF t n m (hiS v k1)))))]) C Fp_Mod_169 0 rfl rfl (by first | rfl | decide) (Nat.le_of_ble_eq_true rfl) rfl d_Mod_lay_85 ?_
      refine j_iconst (pc := 88) (v := nI 1) C d_Mod_lay_88 (by decide) ?_
      exact hR.1 _ _ _ _ d_Mod_lay_89 ⟨_, rfl, by first | rfl | decide⟩ (⟨rfl, by rw [show m = k1 by omega]⟩)
    · skip
      refine j_aload_n (pc := 34) C d_Mod_lay_34 rfl 0 rfl ?_
      refine j_get (pc := 35) C F_Mod_7 0 rfl rfl d_Mod_lay_35 ?_
      refine j_aload_n (pc := 38) C d_Mod_lay_38 rfl 0 rfl ?_
      refine j_get (pc := 39) C F_Mod_169 0 rfl rfl d_Mod_lay_39 ?_
      refine j_iload (pc := 42) C d_Mod_lay_42 4 rfl ?_
      refine j_iaddN (pc := 44) C d_Mod_lay_44 ?_
      refine j_lload_n (pc := 45) C d_Mod_lay_45 rfl 1 rfl ?_
      refine j_bipush (pc := 46) (v := nI 8) C d_Mod_lay_46 (by decide) ?_
      refine j_iload (pc := 48) C d_Mod_lay_48 3 rfl ?_
      refine j_if_eqN (pc := 50) (tgt := 58) C (by omega) d_Mod_lay_50 rfl (fun c50 => ?_) (fun c50 => ?_)
      · skip
        refine j_iload_n (pc := 58) C d_Mod_lay_58 rfl 2 rfl ?_
        refine j_iconst (pc := 59) (v := nI 1) C d_Mod_lay_59 (by decide) ?_
        refine j_isubN (pc := 60) C (by omega) d_Mod_lay_60 ?_
        refine j_iload (pc := 61) C d_Mod_lay_61 4 rfl ?_
        refine j_isubN (pc := 63) C (by omega) d_Mod_lay_63 ?_
        refine j_imulN (pc := 64) C d_Mod_lay_64 ?_
        refine j_lshr (pc := 65) (v := v >>> ((nI (8 * ((k1 - 1) - m))).toInt64 &&& 63)) C d_Mod_lay_65 rfl ?_
        refine j_ldc2 (pc := 66) C k_Mod_106 d_Mod_lay_66 ?_
        refine j_land (pc := 69) C d_Mod_lay_69 ?_
        refine j_rwl (y := lN (hiS v k1 m)) (lsr_b v rfl (by omega)) ?_
        refine j_l2i (pc := 70) (v := nI (hiS v k1 m)) C d_Mod_lay_70 (lN_i _) ?_
        refine j_iastB (pc := 71) (ws' := [(o, .inr (6, mo a (nI n) le ib mn pl q wr z db)), (a 0, .inl (aI g, 2000, .inl (nf (va_up (putF t n m (hiS v k1)) (n + m) (hiS v k1 m)))))]) C 1 1 rfl rfl (by omega) (by omega) rfl d_Mod_lay_71 ?_
        refine j_iinc (pc := 72) (k := 4) (v := nI (m + 1)) (lv' := [(5, .int (nI (m + 1))), (0, .ref o), (1, .long v), (3, .int (nI k1)), (4, .int (nI 0))]) C d_Mod_lay_72 rfl (j_inc _ _) (by decide) rfl ?_
        refine j_goto (pc := 75) (tgt := 28) C d_Mod_lay_75 rfl ?_
        refine j_lv (lv' := [(0, .ref o), (1, .long v), (3, .int (nI k1)), (4, .int (nI 0)), (5, .int (nI (m + 1)))]) [1, 2, 3, 4, 0] rfl ?_
        have e := ih (m + 1) (by omega) (by omega)
        rw [← putF_s] at e
        exact e
      · exfalso; omega
set_option maxHeartbeats 4000000 in
set_option maxRecDepth 100000 in
theorem lp_lay_lo {g : JX} {κ : JK} {o n k1 : Nat} {a : Nat → Nat} {t : Nat → Nat} {v : Int64} {le ib mn pl db q wr z : Int32} (hn : n + k1 ≤ 2000) (hk1 : k1 ≤ 8) (C : j_C g κ b_Mod_lay R_Mod rm_Mod_lay 6) (hR : j_R g κ b_Mod_lay (some .boolean) (fun r w => r = some (.int 1) ∧ w = [(o, .inr (6, mo a (nI (n + k1)) le ib mn pl q wr z db)), (a 0, .inl (aI g, 2000, .inl (nf (putF t n k1 (loS v k1)))))]) 0 0) : ∀ (k : Nat) (m : Nat), m ≤ k1 → k1 + 1 ≤ m + k → j_V g κ (0) (0) 28 [(0, .ref o), (1, .long v), (3, .int (nI k1)), (4, .int (nI 1)), (5, .int (nI m))] [] ([(o, .inr (6, mo a (nI n) le ib mn pl q wr z db)), (a 0, .inl (aI g, 2000, .inl (nf (putF t n m (loS v k1)))))]) := by
  intro k
  induction k with
  | zero =>
    intro m hm hk
    exfalso; omega
  | succ k ih =>
    intro m hm hk
    refine j_iload (pc := 28) C d_Mod_lay_28 4 rfl ?_
    refine j_iload_n (pc := 30) C d_Mod_lay_30 rfl 2 rfl ?_
    refine j_icmp_geN (pc := 31) (tgt := 78) C (by omega) (by omega) d_Mod_lay_31 rfl (fun c31 => ?_) (fun c31 => ?_)
    · skip
      refine j_aload_n (pc := 78) C d_Mod_lay_78 rfl 0 rfl ?_
      refine j_aload_n (pc := 79) C d_Mod_lay_79 rfl 0 rfl ?_
      refine j_get (pc := 80) C F_Mod_169 0 rfl rfl d_Mod_lay_80 ?_
      refine j_iload_n (pc := 83) C d_Mod_lay_83 rfl 2 rfl ?_
      refine j_iaddN (pc := 84) C d_Mod_lay_84 ?_
      refine j_put (pc := 85) (ws' := [(o, .inr (6, mo a (nI (n + k1)) le ib mn pl q wr z db)), (a 0, .inl (aI g, 2000, .inl (nf (putF t n m (loS v k1)))))]) C Fp_Mod_169 0 rfl rfl (by first | rfl | decide) (Nat.le_of_ble_eq_true rfl) rfl d_Mod_lay_85 ?_
      refine j_iconst (pc := 88) (v := nI 1) C d_Mod_lay_88 (by decide) ?_
      exact hR.1 _ _ _ _ d_Mod_lay_89 ⟨_, rfl, by first | rfl | decide⟩ (⟨rfl, by rw [show m = k1 by omega]⟩)
    · skip
      refine j_aload_n (pc := 34) C d_Mod_lay_34 rfl 0 rfl ?_
      refine j_get (pc := 35) C F_Mod_7 0 rfl rfl d_Mod_lay_35 ?_
      refine j_aload_n (pc := 38) C d_Mod_lay_38 rfl 0 rfl ?_
      refine j_get (pc := 39) C F_Mod_169 0 rfl rfl d_Mod_lay_39 ?_
      refine j_iload (pc := 42) C d_Mod_lay_42 4 rfl ?_
      refine j_iaddN (pc := 44) C d_Mod_lay_44 ?_
      refine j_lload_n (pc := 45) C d_Mod_lay_45 rfl 1 rfl ?_
      refine j_bipush (pc := 46) (v := nI 8) C d_Mod_lay_46 (by decide) ?_
      refine j_iload (pc := 48) C d_Mod_lay_48 3 rfl ?_
      refine j_if_eqN (pc := 50) (tgt := 58) C (by omega) d_Mod_lay_50 rfl (fun c50 => ?_) (fun c50 => ?_)
      · exfalso; omega
      · skip
        refine j_iload (pc := 53) C d_Mod_lay_53 4 rfl ?_
        refine j_goto (pc := 55) (tgt := 64) C d_Mod_lay_55 rfl ?_
        refine j_imulN (pc := 64) C d_Mod_lay_64 ?_
        refine j_lshr (pc := 65) (v := v >>> ((nI (8 * m)).toInt64 &&& 63)) C d_Mod_lay_65 rfl ?_
        refine j_ldc2 (pc := 66) C k_Mod_106 d_Mod_lay_66 ?_
        refine j_land (pc := 69) C d_Mod_lay_69 ?_
        refine j_rwl (y := lN (loS v k1 m)) (lsr_b v rfl (by omega)) ?_
        refine j_l2i (pc := 70) (v := nI (loS v k1 m)) C d_Mod_lay_70 (lN_i _) ?_
        refine j_iastB (pc := 71) (ws' := [(o, .inr (6, mo a (nI n) le ib mn pl q wr z db)), (a 0, .inl (aI g, 2000, .inl (nf (va_up (putF t n m (loS v k1)) (n + m) (loS v k1 m)))))]) C 1 1 rfl rfl (by omega) (by omega) rfl d_Mod_lay_71 ?_
        refine j_iinc (pc := 72) (k := 4) (v := nI (m + 1)) (lv' := [(5, .int (nI (m + 1))), (0, .ref o), (1, .long v), (3, .int (nI k1)), (4, .int (nI 1))]) C d_Mod_lay_72 rfl (j_inc _ _) (by decide) rfl ?_
        refine j_goto (pc := 75) (tgt := 28) C d_Mod_lay_75 rfl ?_
        refine j_lv (lv' := [(0, .ref o), (1, .long v), (3, .int (nI k1)), (4, .int (nI 1)), (5, .int (nI (m + 1)))]) [1, 2, 3, 4, 0] rfl ?_
        have e := ih (m + 1) (by omega) (by omega)
        rw [← putF_s] at e
        exact e
set_option maxHeartbeats 4000000 in
set_option maxRecDepth 100000 in
theorem c_Mod_lay_hi (l : Launch) (g : JX) (o : Nat) (a : Nat → Nat) (n : Nat) (t : Nat → Nat) (v : Int64) (x : Int32) (le ib mn pl db q wr z : Int32) (hn : n ≤ 2000) : j_Ct l y_Mod_lay b_Mod_lay 6 (some .boolean) rm_Mod_lay g ([(o, .inr (6, mo a (nI n) le ib mn pl q wr z db)), (a 0, .inl (aI g, 2000, .inl (nf t)))]) [.ref o, .long v, .int x, .int (nI 0)] (fun r w => r = some (.int (b2 (pOk n x))) ∧ w = [(o, .inr (6, mo a (nI (pN n x)) le ib mn pl q wr z db)), (a 0, .inl (aI g, 2000, .inl (nf (pT t n x (hiS v)))))]) 0 0 := by
  refine j_ct (by decide) (Nat.le_of_ble_eq_true rfl) (fun κ hkl C hR hI => ?_)
  show j_V g κ 0 0 0 [(0, .ref o), (1, .long v), (3, .int x), (4, .int (nI 0))] [] ([(o, .inr (6, mo a (nI n) le ib mn pl q wr z db)), (a 0, .inl (aI g, 2000, .inl (nf t)))])
  rcases pk_ix x (n := 9) (by decide) with hx | hx | ⟨k1, hk1, rfl⟩
  · skip
    show j_V g κ 0 0 0 [(0, .ref o), (1, .long v), (3, .int x), (4, .int (nI 0))] [] ([(o, .inr (6, mo a (nI n) le ib mn pl q wr z db)), (a 0, .inl (aI g, 2000, .inl (nf t)))])
    refine j_iload_n (pc := 0) C d_Mod_lay_0 rfl 2 rfl ?_
    refine j_iconst (pc := 1) (v := nI 1) C d_Mod_lay_1 (by decide) ?_
    refine j_icmp_lt (pc := 2) (tgt := 23) C d_Mod_lay_2 rfl (fun c2 => ?_) (fun c2 => ?_)
    · skip
      refine j_iconst (pc := 23) (v := nI 0) C d_Mod_lay_23 (by decide) ?_
      exact hR.1 _ _ _ _ d_Mod_lay_24 ⟨_, rfl, by first | rfl | decide⟩ (by first | (have e := pOk_neg (n := n) hx; rw [e, pN_f e, pT_f e]; exact ⟨rfl, rfl⟩) | (have e := pOk_big (n := n) hx; rw [e, pN_f e, pT_f e]; exact ⟨rfl, rfl⟩) | (have e := pOk_f (n := n) (k := k1) (by omega) (by omega); rw [e, pN_f e, pT_f e]; exact ⟨rfl, rfl⟩))
    · skip
      refine j_iload_n (pc := 5) C d_Mod_lay_5 rfl 2 rfl ?_
      refine j_bipush (pc := 6) (v := nI 8) C d_Mod_lay_6 (by decide) ?_
      refine j_icmp_gt (pc := 8) (tgt := 23) C d_Mod_lay_8 rfl (fun c8 => ?_) (fun c8 => ?_)
      · skip
        refine j_iconst (pc := 23) (v := nI 0) C d_Mod_lay_23 (by decide) ?_
        exact hR.1 _ _ _ _ d_Mod_lay_24 ⟨_, rfl, by first | rfl | decide⟩ (by first | (have e := pOk_neg (n := n) hx; rw [e, pN_f e, pT_f e]; exact ⟨rfl, rfl⟩) | (have e := pOk_big (n := n) hx; rw [e, pN_f e, pT_f e]; exact ⟨rfl, rfl⟩) | (have e := pOk_f (n := n) (k := k1) (by omega) (by omega); rw [e, pN_f e, pT_f e]; exact ⟨rfl, rfl⟩))
      · skip
        exfalso
        rw [Int32.lt_iff_toInt_lt, nI_toInt (by decide)] at c2
        rw [Int32.lt_iff_toInt_lt, nI_toInt (by decide)] at c8
        first | (rw [Int32.lt_iff_toInt_lt, Int32.toInt_zero] at hx; omega) | (rw [Int32.le_iff_toInt_le, nI_toInt (by decide)] at hx; omega)
  · skip
    show j_V g κ 0 0 0 [(0, .ref o), (1, .long v), (3, .int x), (4, .int (nI 0))] [] ([(o, .inr (6, mo a (nI n) le ib mn pl q wr z db)), (a 0, .inl (aI g, 2000, .inl (nf t)))])
    refine j_iload_n (pc := 0) C d_Mod_lay_0 rfl 2 rfl ?_
    refine j_iconst (pc := 1) (v := nI 1) C d_Mod_lay_1 (by decide) ?_
    refine j_icmp_lt (pc := 2) (tgt := 23) C d_Mod_lay_2 rfl (fun c2 => ?_) (fun c2 => ?_)
    · skip
      refine j_iconst (pc := 23) (v := nI 0) C d_Mod_lay_23 (by decide) ?_
      exact hR.1 _ _ _ _ d_Mod_lay_24 ⟨_, rfl, by first | rfl | decide⟩ (by first | (have e := pOk_neg (n := n) hx; rw [e, pN_f e, pT_f e]; exact ⟨rfl, rfl⟩) | (have e := pOk_big (n := n) hx; rw [e, pN_f e, pT_f e]; exact ⟨rfl, rfl⟩) | (have e := pOk_f (n := n) (k := k1) (by omega) (by omega); rw [e, pN_f e, pT_f e]; exact ⟨rfl, rfl⟩))
    · skip
      refine j_iload_n (pc := 5) C d_Mod_lay_5 rfl 2 rfl ?_
      refine j_bipush (pc := 6) (v := nI 8) C d_Mod_lay_6 (by decide) ?_
      refine j_icmp_gt (pc := 8) (tgt := 23) C d_Mod_lay_8 rfl (fun c8 => ?_) (fun c8 => ?_)
      · skip
        refine j_iconst (pc := 23) (v := nI 0) C d_Mod_lay_23 (by decide) ?_
        exact hR.1 _ _ _ _ d_Mod_lay_24 ⟨_, rfl, by first | rfl | decide⟩ (by first | (have e := pOk_neg (n := n) hx; rw [e, pN_f e, pT_f e]; exact ⟨rfl, rfl⟩) | (have e := pOk_big (n := n) hx; rw [e, pN_f e, pT_f e]; exact ⟨rfl, rfl⟩) | (have e := pOk_f (n := n) (k := k1) (by omega) (by omega); rw [e, pN_f e, pT_f e]; exact ⟨rfl, rfl⟩))
      · skip
        exfalso
        rw [Int32.lt_iff_toInt_lt, nI_toInt (by decide)] at c2
        rw [Int32.lt_iff_toInt_lt, nI_toInt (by decide)] at c8
        first | (rw [Int32.lt_iff_toInt_lt, Int32.toInt_zero] at hx; omega) | (rw [Int32.le_iff_toInt_le, nI_toInt (by decide)] at hx; omega)
  · skip
    show j_V g κ 0 0 0 [(0, .ref o), (1, .long v), (3, .int (nI k1)), (4, .int (nI 0))] [] ([(o, .inr (6, mo a (nI n) le ib mn pl q wr z db)), (a 0, .inl (aI g, 2000, .inl (nf t)))])
    refine j_iload_n (pc := 0) C d_Mod_lay_0 rfl 2 rfl ?_
    refine j_iconst (pc := 1) (v := nI 1) C d_Mod_lay_1 (by decide) ?_
    refine j_icmp_ltN (pc := 2) (tgt := 23) C (by omega) (by omega) d_Mod_lay_2 rfl (fun c2 => ?_) (fun c2 => ?_)
    · skip
      refine j_iconst (pc := 23) (v := nI 0) C d_Mod_lay_23 (by decide) ?_
      exact hR.1 _ _ _ _ d_Mod_lay_24 ⟨_, rfl, by first | rfl | decide⟩ (by first | (have e := pOk_neg (n := n) hx; rw [e, pN_f e, pT_f e]; exact ⟨rfl, rfl⟩) | (have e := pOk_big (n := n) hx; rw [e, pN_f e, pT_f e]; exact ⟨rfl, rfl⟩) | (have e := pOk_f (n := n) (k := k1) (by omega) (by omega); rw [e, pN_f e, pT_f e]; exact ⟨rfl, rfl⟩))
    · skip
      refine j_iload_n (pc := 5) C d_Mod_lay_5 rfl 2 rfl ?_
      refine j_bipush (pc := 6) (v := nI 8) C d_Mod_lay_6 (by decide) ?_
      refine j_icmp_gtN (pc := 8) (tgt := 23) C (by omega) (by omega) d_Mod_lay_8 rfl (fun c8 => ?_) (fun c8 => ?_)
      · skip
        refine j_iconst (pc := 23) (v := nI 0) C d_Mod_lay_23 (by decide) ?_
        exact hR.1 _ _ _ _ d_Mod_lay_24 ⟨_, rfl, by first | rfl | decide⟩ (by first | (have e := pOk_neg (n := n) hx; rw [e, pN_f e, pT_f e]; exact ⟨rfl, rfl⟩) | (have e := pOk_big (n := n) hx; rw [e, pN_f e, pT_f e]; exact ⟨rfl, rfl⟩) | (have e := pOk_f (n := n) (k := k1) (by omega) (by omega); rw [e, pN_f e, pT_f e]; exact ⟨rfl, rfl⟩))
      · skip
        refine j_aload_n (pc := 11) C d_Mod_lay_11 rfl 0 rfl ?_
        refine j_get (pc := 12) C F_Mod_169 0 rfl rfl d_Mod_lay_12 ?_
        refine j_iload_n (pc := 15) C d_Mod_lay_15 rfl 2 rfl ?_
        refine j_iaddN (pc := 16) C d_Mod_lay_16 ?_
        refine j_sipush (pc := 17) (v := nI 2000) C d_Mod_lay_17 (by decide) ?_
        refine j_icmp_leN (pc := 20) (tgt := 25) C (by omega) (by omega) d_Mod_lay_20 rfl (fun c20 => ?_) (fun c20 => ?_)
        · skip
          refine j_iconst (pc := 25) (v := nI 0) C d_Mod_lay_25 (by decide) ?_
          refine j_istore (pc := 26) (lv' := [(5, .int (nI 0)), (0, .ref o), (1, .long v), (3, .int (nI k1)), (4, .int (nI 0))]) C d_Mod_lay_26 (by decide) rfl ?_
          refine j_lv (lv' := [(0, .ref o), (1, .long v), (3, .int (nI k1)), (4, .int (nI 0)), (5, .int (nI 0))]) [1, 2, 3, 4, 0] rfl ?_
          have e := lp_lay_hi (o := o) (n := n) (k1 := k1) (a := a) (t := t) (v := v) (le := le) (ib := ib) (mn := mn) (pl := pl) (db := db) (q := q) (wr := wr) (z := z) (by omega) (by omega) C (j_R_mono hR (fun r w h => by have e := pOk_t (n := n) (k := k1) (by omega) (by omega) (by omega); rw [e, pN_t e (by omega), pT_t e (by omega)]; exact h)) (k1 + 1) 0 (by omega) (by omega)
          rw [putF_0] at e
          exact e
        · skip
          refine j_iconst (pc := 23) (v := nI 0) C d_Mod_lay_23 (by decide) ?_
          exact hR.1 _ _ _ _ d_Mod_lay_24 ⟨_, rfl, by first | rfl | decide⟩ (by first | (have e := pOk_neg (n := n) hx; rw [e, pN_f e, pT_f e]; exact ⟨rfl, rfl⟩) | (have e := pOk_big (n := n) hx; rw [e, pN_f e, pT_f e]; exact ⟨rfl, rfl⟩) | (have e := pOk_f (n := n) (k := k1) (by omega) (by omega); rw [e, pN_f e, pT_f e]; exact ⟨rfl, rfl⟩))
set_option maxHeartbeats 4000000 in
set_option maxRecDepth 100000 in
theorem c_Mod_lay_lo (l : Launch) (g : JX) (o : Nat) (a : Nat → Nat) (n : Nat) (t : Nat → Nat) (v : Int64) (x : Int32) (le ib mn pl db q wr z : Int32) (hn : n ≤ 2000) : j_Ct l y_Mod_lay b_Mod_lay 6 (some .boolean) rm_Mod_lay g ([(o, .inr (6, mo a (nI n) le ib mn pl q wr z db)), (a 0, .inl (aI g, 2000, .inl (nf t)))]) [.ref o, .long v, .int x, .int (nI 1)] (fun r w => r = some (.int (b2 (pOk n x))) ∧ w = [(o, .inr (6, mo a (nI (pN n x)) le ib mn pl q wr z db)), (a 0, .inl (aI g, 2000, .inl (nf (pT t n x (loS v)))))]) 0 0 := by
  refine j_ct (by decide) (Nat.le_of_ble_eq_true rfl) (fun κ hkl C hR hI => ?_)
  show j_V g κ 0 0 0 [(0, .ref o), (1, .long v), (3, .int x), (4, .int (nI 1))] [] ([(o, .inr (6, mo a (nI n) le ib mn pl q wr z db)), (a 0, .inl (aI g, 2000, .inl (nf t)))])
  rcases pk_ix x (n := 9) (by decide) with hx | hx | ⟨k1, hk1, rfl⟩
  · skip
    show j_V g κ 0 0 0 [(0, .ref o), (1, .long v), (3, .int x), (4, .int (nI 1))] [] ([(o, .inr (6, mo a (nI n) le ib mn pl q wr z db)), (a 0, .inl (aI g, 2000, .inl (nf t)))])
    refine j_iload_n (pc := 0) C d_Mod_lay_0 rfl 2 rfl ?_
    refine j_iconst (pc := 1) (v := nI 1) C d_Mod_lay_1 (by decide) ?_
    refine j_icmp_lt (pc := 2) (tgt := 23) C d_Mod_lay_2 rfl (fun c2 => ?_) (fun c2 => ?_)
    · skip
      refine j_iconst (pc := 23) (v := nI 0) C d_Mod_lay_23 (by decide) ?_
      exact hR.1 _ _ _ _ d_Mod_lay_24 ⟨_, rfl, by first | rfl | decide⟩ (by first | (have e := pOk_neg (n := n) hx; rw [e, pN_f e, pT_f e]; exact ⟨rfl, rfl⟩) | (have e := pOk_big (n := n) hx; rw [e, pN_f e, pT_f e]; exact ⟨rfl, rfl⟩) | (have e := pOk_f (n := n) (k := k1) (by omega) (by omega); rw [e, pN_f e, pT_f e]; exact ⟨rfl, rfl⟩))
    · skip
      refine j_iload_n (pc := 5) C d_Mod_lay_5 rfl 2 rfl ?_
      refine j_bipush (pc := 6) (v := nI 8) C d_Mod_lay_6 (by decide) ?_
      refine j_icmp_gt (pc := 8) (tgt := 23) C d_Mod_lay_8 rfl (fun c8 => ?_) (fun c8 => ?_)
      · skip
        refine j_iconst (pc := 23) (v := nI 0) C d_Mod_lay_23 (by decide) ?_
        exact hR.1 _ _ _ _ d_Mod_lay_24 ⟨_, rfl, by first | rfl | decide⟩ (by first | (have e := pOk_neg (n := n) hx; rw [e, pN_f e, pT_f e]; exact ⟨rfl, rfl⟩) | (have e := pOk_big (n := n) hx; rw [e, pN_f e, pT_f e]; exact ⟨rfl, rfl⟩) | (have e := pOk_f (n := n) (k := k1) (by omega) (by omega); rw [e, pN_f e, pT_f e]; exact ⟨rfl, rfl⟩))
      · skip
        exfalso
        rw [Int32.lt_iff_toInt_lt, nI_toInt (by decide)] at c2
        rw [Int32.lt_iff_toInt_lt, nI_toInt (by decide)] at c8
        first | (rw [Int32.lt_iff_toInt_lt, Int32.toInt_zero] at hx; omega) | (rw [Int32.le_iff_toInt_le, nI_toInt (by decide)] at hx; omega)
  · skip
    show j_V g κ 0 0 0 [(0, .ref o), (1, .long v), (3, .int x), (4, .int (nI 1))] [] ([(o, .inr (6, mo a (nI n) le ib mn pl q wr z db)), (a 0, .inl (aI g, 2000, .inl (nf t)))])
    refine j_iload_n (pc := 0) C d_Mod_lay_0 rfl 2 rfl ?_
    refine j_iconst (pc := 1) (v := nI 1) C d_Mod_lay_1 (by decide) ?_
    refine j_icmp_lt (pc := 2) (tgt := 23) C d_Mod_lay_2 rfl (fun c2 => ?_) (fun c2 => ?_)
    · skip
      refine j_iconst (pc := 23) (v := nI 0) C d_Mod_lay_23 (by decide) ?_
      exact hR.1 _ _ _ _ d_Mod_lay_24 ⟨_, rfl, by first | rfl | decide⟩ (by first | (have e := pOk_neg (n := n) hx; rw [e, pN_f e, pT_f e]; exact ⟨rfl, rfl⟩) | (have e := pOk_big (n := n) hx; rw [e, pN_f e, pT_f e]; exact ⟨rfl, rfl⟩) | (have e := pOk_f (n := n) (k := k1) (by omega) (by omega); rw [e, pN_f e, pT_f e]; exact ⟨rfl, rfl⟩))
    · skip
      refine j_iload_n (pc := 5) C d_Mod_lay_5 rfl 2 rfl ?_
      refine j_bipush (pc := 6) (v := nI 8) C d_Mod_lay_6 (by decide) ?_
      refine j_icmp_gt (pc := 8) (tgt := 23) C d_Mod_lay_8 rfl (fun c8 => ?_) (fun c8 => ?_)
      · skip
        refine j_iconst (pc := 23) (v := nI 0) C d_Mod_lay_23 (by decide) ?_
        exact hR.1 _ _ _ _ d_Mod_lay_24 ⟨_, rfl, by first | rfl | decide⟩ (by first | (have e := pOk_neg (n := n) hx; rw [e, pN_f e, pT_f e]; exact ⟨rfl, rfl⟩) | (have e := pOk_big (n := n) hx; rw [e, pN_f e, pT_f e]; exact ⟨rfl, rfl⟩) | (have e := pOk_f (n := n) (k := k1) (by omega) (by omega); rw [e, pN_f e, pT_f e]; exact ⟨rfl, rfl⟩))
      · skip
        exfalso
        rw [Int32.lt_iff_toInt_lt, nI_toInt (by decide)] at c2
        rw [Int32.lt_iff_toInt_lt, nI_toInt (by decide)] at c8
        first | (rw [Int32.lt_iff_toInt_lt, Int32.toInt_zero] at hx; omega) | (rw [Int32.le_iff_toInt_le, nI_toInt (by decide)] at hx; omega)
  · skip
    show j_V g κ 0 0 0 [(0, .ref o), (1, .long v), (3, .int (nI k1)), (4, .int (nI 1))] [] ([(o, .inr (6, mo a (nI n) le ib mn pl q wr z db)), (a 0, .inl (aI g, 2000, .inl (nf t)))])
    refine j_iload_n (pc := 0) C d_Mod_lay_0 rfl 2 rfl ?_
    refine j_iconst (pc := 1) (v := nI 1) C d_Mod_lay_1 (by decide) ?_
    refine j_icmp_ltN (pc := 2) (tgt := 23) C (by omega) (by omega) d_Mod_lay_2 rfl (fun c2 => ?_) (fun c2 => ?_)
    · skip
      refine j_iconst (pc := 23) (v := nI 0) C d_Mod_lay_23 (by decide) ?_
      exact hR.1 _ _ _ _ d_Mod_lay_24 ⟨_, rfl, by first | rfl | decide⟩ (by first | (have e := pOk_neg (n := n) hx; rw [e, pN_f e, pT_f e]; exact ⟨rfl, rfl⟩) | (have e := pOk_big (n := n) hx; rw [e, pN_f e, pT_f e]; exact ⟨rfl, rfl⟩) | (have e := pOk_f (n := n) (k := k1) (by omega) (by omega); rw [e, pN_f e, pT_f e]; exact ⟨rfl, rfl⟩))
    · skip
      refine j_iload_n (pc := 5) C d_Mod_lay_5 rfl 2 rfl ?_
      refine j_bipush (pc := 6) (v := nI 8) C d_Mod_lay_6 (by decide) ?_
      refine j_icmp_gtN (pc := 8) (tgt := 23) C (by omega) (by omega) d_Mod_lay_8 rfl (fun c8 => ?_) (fun c8 => ?_)
      · skip
        refine j_iconst (pc := 23) (v := nI 0) C d_Mod_lay_23 (by decide) ?_
        exact hR.1 _ _ _ _ d_Mod_lay_24 ⟨_, rfl, by first | rfl | decide⟩ (by first | (have e := pOk_neg (n := n) hx; rw [e, pN_f e, pT_f e]; exact ⟨rfl, rfl⟩) | (have e := pOk_big (n := n) hx; rw [e, pN_f e, pT_f e]; exact ⟨rfl, rfl⟩) | (have e := pOk_f (n := n) (k := k1) (by omega) (by omega); rw [e, pN_f e, pT_f e]; exact ⟨rfl, rfl⟩))
      · skip
        refine j_aload_n (pc := 11) C d_Mod_lay_11 rfl 0 rfl ?_
        refine j_get (pc := 12) C F_Mod_169 0 rfl rfl d_Mod_lay_12 ?_
        refine j_iload_n (pc := 15) C d_Mod_lay_15 rfl 2 rfl ?_
        refine j_iaddN (pc := 16) C d_Mod_lay_16 ?_
        refine j_sipush (pc := 17) (v := nI 2000) C d_Mod_lay_17 (by decide) ?_
        refine j_icmp_leN (pc := 20) (tgt := 25) C (by omega) (by omega) d_Mod_lay_20 rfl (fun c20 => ?_) (fun c20 => ?_)
        · skip
          refine j_iconst (pc := 25) (v := nI 0) C d_Mod_lay_25 (by decide) ?_
          refine j_istore (pc := 26) (lv' := [(5, .int (nI 0)), (0, .ref o), (1, .long v), (3, .int (nI k1)), (4, .int (nI 1))]) C d_Mod_lay_26 (by decide) rfl ?_
          refine j_lv (lv' := [(0, .ref o), (1, .long v), (3, .int (nI k1)), (4, .int (nI 1)), (5, .int (nI 0))]) [1, 2, 3, 4, 0] rfl ?_
          have e := lp_lay_lo (o := o) (n := n) (k1 := k1) (a := a) (t := t) (v := v) (le := le) (ib := ib) (mn := mn) (pl := pl) (db := db) (q := q) (wr := wr) (z := z) (by omega) (by omega) C (j_R_mono hR (fun r w h => by have e := pOk_t (n := n) (k := k1) (by omega) (by omega) (by omega); rw [e, pN_t e (by omega), pT_t e (by omega)]; exact h)) (k1 + 1) 0 (by omega) (by omega)
          rw [putF_0] at e
          exact e
        · skip
          refine j_iconst (pc := 23) (v := nI 0) C d_Mod_lay_23 (by decide) ?_
          exact hR.1 _ _ _ _ d_Mod_lay_24 ⟨_, rfl, by first | rfl | decide⟩ (by first | (have e := pOk_neg (n := n) hx; rw [e, pN_f e, pT_f e]; exact ⟨rfl, rfl⟩) | (have e := pOk_big (n := n) hx; rw [e, pN_f e, pT_f e]; exact ⟨rfl, rfl⟩) | (have e := pOk_f (n := n) (k := k1) (by omega) (by omega); rw [e, pN_f e, pT_f e]; exact ⟨rfl, rfl⟩))
abbrev rm_Mod_put : Room := { frames := 1, cells := 0, slots := 0, locals := 25 }
set_option maxHeartbeats 4000000 in
set_option maxRecDepth 100000 in
theorem c_Mod_put (l : Launch) (g : JX) (o : Nat) (a : Nat → Nat) (n : Nat) (t : Nat → Nat) (v : Int64) (x : Int32) (le ib mn pl db q wr z : Int32) (hn : n ≤ 2000) : j_Ct l y_Mod_put b_Mod_put 4 (some .boolean) rm_Mod_put g ([(o, .inr (6, mo a (nI n) le ib mn pl q wr z db)), (a 0, .inl (aI g, 2000, .inl (nf t)))]) [.ref o, .long v, .int x] (fun r w => r = some (.int (b2 (pOk n x))) ∧ w = [(o, .inr (6, mo a (nI (pN n x)) le ib mn pl q wr z db)), (a 0, .inl (aI g, 2000, .inl (nf (pT t n x (hiS v)))))]) 0 0 := by
  refine j_ct (by decide) (Nat.le_of_ble_eq_true rfl) (fun κ hkl C hR hI => ?_)
  show j_V g κ 0 0 0 [(0, .ref o), (1, .long v), (3, .int x)] [] ([(o, .inr (6, mo a (nI n) le ib mn pl q wr z db)), (a 0, .inl (aI g, 2000, .inl (nf t)))])
  refine j_aload_n (pc := 0) C d_Mod_put_0 rfl 0 rfl ?_
  refine j_lload_n (pc := 1) C d_Mod_put_1 rfl 1 rfl ?_
  refine j_iload_n (pc := 2) C d_Mod_put_2 rfl 2 rfl ?_
  refine j_iconst (pc := 3) (v := nI 0) C d_Mod_put_3 (by decide) ?_
  refine j_callV (pc := 4) (As := [.long v, .int x, .int (nI 0)]) (rest := []) (wc := [(o, .inr (6, mo a (nI n) le ib mn pl q wr z db)), (a 0, .inl (aI g, 2000, .inl (nf t)))]) (wr := []) C (c_Mod_lay_hi (kl κ) g o a n t v x le ib mn pl db q wr z (by omega)) Y_Mod_lay ml_Mod_165 im_Mod_lay sl_Mod_lay rfl ⟨by decide, by decide⟩ rfl (ci := 6) (q0 := 0) rfl rfl rfl (Nat.le_of_ble_eq_true rfl) (j_sb [0, 1] rfl rfl) rfl d_Mod_put_4 (fun r w1 hO => ?_)
  obtain ⟨rfl, rfl⟩ := hO
  show j_V g κ 0 0 7 [(0, .ref o), (1, .long v), (3, .int x)] [.int (b2 (pOk n x))] ([(o, .inr (6, mo a (nI (pN n x)) le ib mn pl q wr z db)), (a 0, .inl (aI g, 2000, .inl (nf (pT t n x (hiS v)))))])
  exact hR.1 _ _ _ _ d_Mod_put_7 ⟨_, rfl, by cases pOk n x <;> rfl⟩ ⟨rfl, rfl⟩
abbrev rm_Mod_low : Room := { frames := 1, cells := 0, slots := 0, locals := 25 }
set_option maxHeartbeats 4000000 in
set_option maxRecDepth 100000 in
theorem c_Mod_low (l : Launch) (g : JX) (o : Nat) (a : Nat → Nat) (n : Nat) (t : Nat → Nat) (v : Int64) (x : Int32) (le ib mn pl db q wr z : Int32) (hn : n ≤ 2000) : j_Ct l y_Mod_low b_Mod_low 4 (some .boolean) rm_Mod_low g ([(o, .inr (6, mo a (nI n) le ib mn pl q wr z db)), (a 0, .inl (aI g, 2000, .inl (nf t)))]) [.ref o, .long v, .int x] (fun r w => r = some (.int (b2 (pOk n x))) ∧ w = [(o, .inr (6, mo a (nI (pN n x)) le ib mn pl q wr z db)), (a 0, .inl (aI g, 2000, .inl (nf (pT t n x (loS v)))))]) 0 0 := by
  refine j_ct (by decide) (Nat.le_of_ble_eq_true rfl) (fun κ hkl C hR hI => ?_)
  show j_V g κ 0 0 0 [(0, .ref o), (1, .long v), (3, .int x)] [] ([(o, .inr (6, mo a (nI n) le ib mn pl q wr z db)), (a 0, .inl (aI g, 2000, .inl (nf t)))])
  refine j_aload_n (pc := 0) C d_Mod_low_0 rfl 0 rfl ?_
  refine j_lload_n (pc := 1) C d_Mod_low_1 rfl 1 rfl ?_
  refine j_iload_n (pc := 2) C d_Mod_low_2 rfl 2 rfl ?_
  refine j_iconst (pc := 3) (v := nI 1) C d_Mod_low_3 (by decide) ?_
  refine j_callV (pc := 4) (As := [.long v, .int x, .int (nI 1)]) (rest := []) (wc := [(o, .inr (6, mo a (nI n) le ib mn pl q wr z db)), (a 0, .inl (aI g, 2000, .inl (nf t)))]) (wr := []) C (c_Mod_lay_lo (kl κ) g o a n t v x le ib mn pl db q wr z (by omega)) Y_Mod_lay ml_Mod_165 im_Mod_lay sl_Mod_lay rfl ⟨by decide, by decide⟩ rfl (ci := 6) (q0 := 0) rfl rfl rfl (Nat.le_of_ble_eq_true rfl) (j_sb [0, 1] rfl rfl) rfl d_Mod_low_4 (fun r w1 hO => ?_)
  obtain ⟨rfl, rfl⟩ := hO
  show j_V g κ 0 0 7 [(0, .ref o), (1, .long v), (3, .int x)] [.int (b2 (pOk n x))] ([(o, .inr (6, mo a (nI (pN n x)) le ib mn pl q wr z db)), (a 0, .inl (aI g, 2000, .inl (nf (pT t n x (loS v)))))])
  exact hR.1 _ _ _ _ d_Mod_low_7 ⟨_, rfl, by cases pOk n x <;> rfl⟩ ⟨rfl, rfl⟩
abbrev rm_Mod_compact : Room := { frames := 1, cells := 0, slots := 0, locals := 25 }
set_option maxHeartbeats 4000000 in
set_option maxRecDepth 100000 in
theorem c_Mod_compact (l : Launch) (g : JX) (o : Nat) (a : Nat → Nat) (n V : Nat) (t : Nat → Nat) (le ib mn pl db q wr z : Int32) (hn : n ≤ 2000) (hV : V < 2 ^ 64) : j_Ct l y_Mod_compact b_Mod_compact 4 (some .boolean) rm_Mod_compact g ([(o, .inr (6, mo a (nI n) le ib mn pl q wr z db)), (a 0, .inl (aI g, 2000, .inl (nf t)))]) [.ref o, .long (lN V)] (fun r w => r = some (.int (b2 (cOk n V))) ∧ w = [(o, .inr (6, mo a (nI (cN n V)) le ib mn pl q wr z db)), (a 0, .inl (aI g, 2000, .inl (nf (cT t n V))))]) 0 0 := by
  refine j_ct (by decide) (Nat.le_of_ble_eq_true rfl) (fun κ hkl C hR hI => ?_)
  show j_V g κ 0 0 0 [(0, .ref o), (1, .long (lN V))] [] ([(o, .inr (6, mo a (nI n) le ib mn pl q wr z db)), (a 0, .inl (aI g, 2000, .inl (nf t)))])
  refine j_lload_n (pc := 0) C d_Mod_compact_0 rfl 1 rfl ?_
  refine j_lconst (pc := 1) (v := 0) C d_Mod_compact_1 (by decide) ?_
  refine j_lcmp (pc := 2) C d_Mod_compact_2 ?_
  refine j_if_lt (pc := 3) (tgt := 14) C d_Mod_compact_3 rfl (fun c3 => ?_) (fun c3 => ?_)
  · skip
    have hV3 := z_big hV c3
    have hwf : wFit V = 8 := by unfold wFit; rw [if_neg (by omega), if_neg (by omega), if_neg (by omega)]
    refine j_bipush (pc := 14) (v := nI 8) C d_Mod_compact_14 (by decide) ?_
    refine j_goto (pc := 16) (tgt := 44) C d_Mod_compact_16 rfl ?_
    refine j_istore_n (pc := 44) (lv' := [(3, .int (nI 8)), (0, .ref o), (1, .long (lN V))]) C d_Mod_compact_44 rfl (by decide) rfl ?_
    refine j_aload_n (pc := 45) C d_Mod_compact_45 rfl 1 rfl ?_
    refine j_get (pc := 46) C F_Mod_169 0 rfl rfl d_Mod_compact_46 ?_
    refine j_iconst (pc := 49) (v := nI 1) C d_Mod_compact_49 (by decide) ?_
    refine j_iaddN (pc := 50) C d_Mod_compact_50 ?_
    refine j_iload_n (pc := 51) C d_Mod_compact_51 rfl 0 rfl ?_
    refine j_iaddN (pc := 52) C d_Mod_compact_52 ?_
    refine j_sipush (pc := 53) (v := nI 2000) C d_Mod_compact_53 (by decide) ?_
    refine j_icmp_leN (pc := 56) (tgt := 61) C (by omega) (by omega) d_Mod_compact_56 rfl (fun c56 => ?_) (fun c56 => ?_)
    · skip
      refine j_aload_n (pc := 61) C d_Mod_compact_61 rfl 1 rfl ?_
      refine j_get (pc := 62) C F_Mod_7 0 rfl rfl d_Mod_compact_62 ?_
      refine j_aload_n (pc := 65) C d_Mod_compact_65 rfl 1 rfl ?_
      refine j_get (pc := 66) C F_Mod_169 0 rfl rfl d_Mod_compact_66 ?_
      refine j_iload_n (pc := 69) C d_Mod_compact_69 rfl 0 rfl ?_
      refine j_if_neN (pc := 70) (tgt := 78) C (by omega) d_Mod_compact_70 rfl (fun c70 => ?_) (fun c70 => ?_)
      · skip
        refine j_iload_n (pc := 78) C d_Mod_compact_78 rfl 0 rfl ?_
        refine j_iconst (pc := 79) (v := nI 2) C d_Mod_compact_79 (by decide) ?_
        refine j_icmp_neN (pc := 80) (tgt := 89) C (by omega) (by omega) d_Mod_compact_80 rfl (fun c80 => ?_) (fun c80 => ?_)
        · skip
          refine j_iload_n (pc := 89) C d_Mod_compact_89 rfl 0 rfl ?_
          refine j_iconst (pc := 90) (v := nI 4) C d_Mod_compact_90 (by decide) ?_
          refine j_icmp_neN (pc := 91) (tgt := 100) C (by omega) (by omega) d_Mod_compact_91 rfl (fun c91 => ?_) (fun c91 => ?_)
          · skip
            refine j_sipush (pc := 100) (v := nI 255) C d_Mod_compact_100 (by decide) ?_
            refine j_iastB (pc := 103) (ws' := [(o, .inr (6, mo a (nI n) le ib mn pl q wr z db)), (a 0, .inl (aI g, 2000, .inl (nf (va_up t n 255))))]) C 1 1 rfl rfl (by omega) (by omega) rfl d_Mod_compact_103 ?_
            refine j_aload_n (pc := 104) C d_Mod_compact_104 rfl 1 rfl ?_
            refine j_aload_n (pc := 105) C d_Mod_compact_105 rfl 1 rfl ?_
            refine j_get (pc := 106) C F_Mod_169 0 rfl rfl d_Mod_compact_106 ?_
            refine j_iconst (pc := 109) (v := nI 1) C d_Mod_compact_109 (by decide) ?_
            refine j_iaddN (pc := 110) C d_Mod_compact_110 ?_
            refine j_put (pc := 111) (ws' := [(o, .inr (6, mo a (nI (n + 1)) le ib mn pl q wr z db)), (a 0, .inl (aI g, 2000, .inl (nf (va_up t n 255))))]) C Fp_Mod_169 0 rfl rfl (by first | rfl | decide) (Nat.le_of_ble_eq_true rfl) rfl d_Mod_compact_111 ?_
            refine j_iload_n (pc := 114) C d_Mod_compact_114 rfl 0 rfl ?_
            refine j_if_leN (pc := 115) (tgt := 126) C (by omega) d_Mod_compact_115 rfl (fun c115 => ?_) (fun c115 => ?_)
            · exfalso; omega
            · skip
              refine j_aload_n (pc := 118) C d_Mod_compact_118 rfl 1 rfl ?_
              refine j_lload_n (pc := 119) C d_Mod_compact_119 rfl 2 rfl ?_
              refine j_iload_n (pc := 120) C d_Mod_compact_120 rfl 0 rfl ?_
              refine j_iconst (pc := 121) (v := nI 1) C d_Mod_compact_121 (by decide) ?_
              refine j_callV (pc := 122) (As := [.long (lN V), .int (nI 8), .int (nI 1)]) (rest := []) (wc := [(o, .inr (6, mo a (nI (n + 1)) le ib mn pl q wr z db)), (a 0, .inl (aI g, 2000, .inl (nf (va_up t n 255))))]) (wr := []) C (c_Mod_lay_lo (kl κ) g o a (n + 1) (va_up t n 255) (lN V) (nI 8) le ib mn pl db q wr z (by omega)) Y_Mod_lay ml_Mod_165 im_Mod_lay sl_Mod_lay rfl ⟨by decide, by decide⟩ rfl (ci := 6) (q0 := 0) rfl rfl rfl (Nat.le_of_ble_eq_true rfl) (j_sb [0, 1] rfl rfl) rfl d_Mod_compact_122 (fun r w1 hO => ?_)
              obtain ⟨rfl, rfl⟩ := hO
              show j_V g κ 0 0 125 [(3, .int (nI 8)), (0, .ref o), (1, .long (lN V))] [.int (b2 (pOk (n + 1) (nI 8)))] ([(o, .inr (6, mo a (nI (pN (n + 1) (nI 8))) le ib mn pl q wr z db)), (a 0, .inl (aI g, 2000, .inl (nf (pT (va_up t n 255) (n + 1) (nI 8) (loS (lN V))))))])
              refine j_pop (pc := 125) C d_Mod_compact_125 rfl ?_
              refine j_iconst (pc := 126) (v := nI 1) C d_Mod_compact_126 (by decide) ?_
              exact hR.1 _ _ _ _ d_Mod_compact_127 ⟨_, rfl, by first | rfl | decide⟩ (by have e := pOk_t (n := n + 1) (k := 8) (by decide) (by decide) (by omega); rw [pN_t e (by decide), pT_t e (by decide)]; unfold cN cT; rw [show cOk n V = true from decide_eq_true (by omega), if_pos rfl, if_pos rfl, ← cT_2 hV (by omega), hwf, vu_p1 (c := 255) (by decide), Nat.add_assoc]; exact ⟨rfl, rfl⟩)
          · exfalso; omega
        · exfalso; omega
      · exfalso; omega
    · skip
      refine j_iconst (pc := 59) (v := nI 0) C d_Mod_compact_59 (by decide) ?_
      exact hR.1 _ _ _ _ d_Mod_compact_60 ⟨_, rfl, by first | rfl | decide⟩ (by unfold cN cT; rw [show cOk n V = false from decide_eq_false (by omega)]; exact ⟨rfl, rfl⟩)
  · skip
    have hV6 : V < 2 ^ 63 := z_2 hV c3
    refine j_lload_n (pc := 6) C d_Mod_compact_6 rfl 1 rfl ?_
    refine j_ldc2 (pc := 7) C k_Mod_92 d_Mod_compact_7 ?_
    refine j_lcmp (pc := 10) C d_Mod_compact_10 ?_
    refine j_if_lt (pc := 11) (tgt := 19) C d_Mod_compact_11 rfl (fun c11 => ?_) (fun c11 => ?_)
    · skip
      have hV1 := wzd_1 (c := 4294967296) rfl hV6 (by decide) c11
      refine j_lload_n (pc := 19) C d_Mod_compact_19 rfl 1 rfl ?_
      refine j_ldc2 (pc := 20) C k_Mod_100 d_Mod_compact_20 ?_
      refine j_lcmp (pc := 23) C d_Mod_compact_23 ?_
      refine j_if_lt (pc := 24) (tgt := 31) C d_Mod_compact_24 rfl (fun c24 => ?_) (fun c24 => ?_)
      · skip
        have hV2 := wzd_1 (c := 65536) rfl hV6 (by decide) c24
        refine j_lload_n (pc := 31) C d_Mod_compact_31 rfl 1 rfl ?_
        refine j_ldc2 (pc := 32) C k_Mod_159 d_Mod_compact_32 ?_
        refine j_lcmp (pc := 35) C d_Mod_compact_35 ?_
        refine j_if_lt (pc := 36) (tgt := 43) C d_Mod_compact_36 rfl (fun c36 => ?_) (fun c36 => ?_)
        · skip
          have hV3 := wzd_1 (c := 253) rfl hV6 (by decide) c36
          have hwf : wFit V = 0 := by unfold wFit; rw [if_pos (by omega)]
          refine j_iconst (pc := 43) (v := nI 0) C d_Mod_compact_43 (by decide) ?_
          refine j_istore_n (pc := 44) (lv' := [(3, .int (nI 0)), (0, .ref o), (1, .long (lN V))]) C d_Mod_compact_44 rfl (by decide) rfl ?_
          refine j_aload_n (pc := 45) C d_Mod_compact_45 rfl 1 rfl ?_
          refine j_get (pc := 46) C F_Mod_169 0 rfl rfl d_Mod_compact_46 ?_
          refine j_iconst (pc := 49) (v := nI 1) C d_Mod_compact_49 (by decide) ?_
          refine j_iaddN (pc := 50) C d_Mod_compact_50 ?_
          refine j_iload_n (pc := 51) C d_Mod_compact_51 rfl 0 rfl ?_
          refine j_iaddN (pc := 52) C d_Mod_compact_52 ?_
          refine j_sipush (pc := 53) (v := nI 2000) C d_Mod_compact_53 (by decide) ?_
          refine j_icmp_leN (pc := 56) (tgt := 61) C (by omega) (by omega) d_Mod_compact_56 rfl (fun c56 => ?_) (fun c56 => ?_)
          · skip
            refine j_aload_n (pc := 61) C d_Mod_compact_61 rfl 1 rfl ?_
            refine j_get (pc := 62) C F_Mod_7 0 rfl rfl d_Mod_compact_62 ?_
            refine j_aload_n (pc := 65) C d_Mod_compact_65 rfl 1 rfl ?_
            refine j_get (pc := 66) C F_Mod_169 0 rfl rfl d_Mod_compact_66 ?_
            refine j_iload_n (pc := 69) C d_Mod_compact_69 rfl 0 rfl ?_
            refine j_if_neN (pc := 70) (tgt := 78) C (by omega) d_Mod_compact_70 rfl (fun c70 => ?_) (fun c70 => ?_)
            · exfalso; omega
            · skip
              refine j_lload_n (pc := 73) C d_Mod_compact_73 rfl 2 rfl ?_
              refine j_l2i (pc := 74) (v := nI V) C d_Mod_compact_74 (lN_i _) ?_
              refine j_goto (pc := 75) (tgt := 103) C d_Mod_compact_75 rfl ?_
              refine j_iastB (pc := 103) (ws' := [(o, .inr (6, mo a (nI n) le ib mn pl q wr z db)), (a 0, .inl (aI g, 2000, .inl (nf (va_up t n V))))]) C 1 1 rfl rfl (by omega) (by omega) rfl d_Mod_compact_103 ?_
              refine j_aload_n (pc := 104) C d_Mod_compact_104 rfl 1 rfl ?_
              refine j_aload_n (pc := 105) C d_Mod_compact_105 rfl 1 rfl ?_
              refine j_get (pc := 106) C F_Mod_169 0 rfl rfl d_Mod_compact_106 ?_
              refine j_iconst (pc := 109) (v := nI 1) C d_Mod_compact_109 (by decide) ?_
              refine j_iaddN (pc := 110) C d_Mod_compact_110 ?_
              refine j_put (pc := 111) (ws' := [(o, .inr (6, mo a (nI (n + 1)) le ib mn pl q wr z db)), (a 0, .inl (aI g, 2000, .inl (nf (va_up t n V))))]) C Fp_Mod_169 0 rfl rfl (by first | rfl | decide) (Nat.le_of_ble_eq_true rfl) rfl d_Mod_compact_111 ?_
              refine j_iload_n (pc := 114) C d_Mod_compact_114 rfl 0 rfl ?_
              refine j_if_leN (pc := 115) (tgt := 126) C (by omega) d_Mod_compact_115 rfl (fun c115 => ?_) (fun c115 => ?_)
              · skip
                refine j_iconst (pc := 126) (v := nI 1) C d_Mod_compact_126 (by decide) ?_
                exact hR.1 _ _ _ _ d_Mod_compact_127 ⟨_, rfl, by first | rfl | decide⟩ (by unfold cN cT; rw [show cOk n V = true from decide_eq_true (by omega), if_pos rfl, if_pos rfl, ← cT_1 hV hwf, hwf, vu_p1 (by omega)]; exact ⟨rfl, rfl⟩)
              · exfalso; omega
          · skip
            refine j_iconst (pc := 59) (v := nI 0) C d_Mod_compact_59 (by decide) ?_
            exact hR.1 _ _ _ _ d_Mod_compact_60 ⟨_, rfl, by first | rfl | decide⟩ (by unfold cN cT; rw [show cOk n V = false from decide_eq_false (by omega)]; exact ⟨rfl, rfl⟩)
        · skip
          have hV3 := wzd_2 (c := 253) rfl hV6 (by decide) c36
          have hwf : wFit V = 2 := by unfold wFit; rw [if_neg (by omega), if_pos (by omega)]
          refine j_iconst (pc := 39) (v := nI 2) C d_Mod_compact_39 (by decide) ?_
          refine j_goto (pc := 40) (tgt := 44) C d_Mod_compact_40 rfl ?_
          refine j_istore_n (pc := 44) (lv' := [(3, .int (nI 2)), (0, .ref o), (1, .long (lN V))]) C d_Mod_compact_44 rfl (by decide) rfl ?_
          refine j_aload_n (pc := 45) C d_Mod_compact_45 rfl 1 rfl ?_
          refine j_get (pc := 46) C F_Mod_169 0 rfl rfl d_Mod_compact_46 ?_
          refine j_iconst (pc := 49) (v := nI 1) C d_Mod_compact_49 (by decide) ?_
          refine j_iaddN (pc := 50) C d_Mod_compact_50 ?_
          refine j_iload_n (pc := 51) C d_Mod_compact_51 rfl 0 rfl ?_
          refine j_iaddN (pc := 52) C d_Mod_compact_52 ?_
          refine j_sipush (pc := 53) (v := nI 2000) C d_Mod_compact_53 (by decide) ?_
          refine j_icmp_leN (pc := 56) (tgt := 61) C (by omega) (by omega) d_Mod_compact_56 rfl (fun c56 => ?_) (fun c56 => ?_)
          · skip
            refine j_aload_n (pc := 61) C d_Mod_compact_61 rfl 1 rfl ?_
            refine j_get (pc := 62) C F_Mod_7 0 rfl rfl d_Mod_compact_62 ?_
            refine j_aload_n (pc := 65) C d_Mod_compact_65 rfl 1 rfl ?_
            refine j_get (pc := 66) C F_Mod_169 0 rfl rfl d_Mod_compact_66 ?_
            refine j_iload_n (pc := 69) C d_Mod_compact_69 rfl 0 rfl ?_
            refine j_if_neN (pc := 70) (tgt := 78) C (by omega) d_Mod_compact_70 rfl (fun c70 => ?_) (fun c70 => ?_)
            · skip
              refine j_iload_n (pc := 78) C d_Mod_compact_78 rfl 0 rfl ?_
              refine j_iconst (pc := 79) (v := nI 2) C d_Mod_compact_79 (by decide) ?_
              refine j_icmp_neN (pc := 80) (tgt := 89) C (by omega) (by omega) d_Mod_compact_80 rfl (fun c80 => ?_) (fun c80 => ?_)
              · exfalso; omega
              · skip
                refine j_sipush (pc := 83) (v := nI 253) C d_Mod_compact_83 (by decide) ?_
                refine j_goto (pc := 86) (tgt := 103) C d_Mod_compact_86 rfl ?_
                refine j_iastB (pc := 103) (ws' := [(o, .inr (6, mo a (nI n) le ib mn pl q wr z db)), (a 0, .inl (aI g, 2000, .inl (nf (va_up t n 253))))]) C 1 1 rfl rfl (by omega) (by omega) rfl d_Mod_compact_103 ?_
                refine j_aload_n (pc := 104) C d_Mod_compact_104 rfl 1 rfl ?_
                refine j_aload_n (pc := 105) C d_Mod_compact_105 rfl 1 rfl ?_
                refine j_get (pc := 106) C F_Mod_169 0 rfl rfl d_Mod_compact_106 ?_
                refine j_iconst (pc := 109) (v := nI 1) C d_Mod_compact_109 (by decide) ?_
                refine j_iaddN (pc := 110) C d_Mod_compact_110 ?_
                refine j_put (pc := 111) (ws' := [(o, .inr (6, mo a (nI (n + 1)) le ib mn pl q wr z db)), (a 0, .inl (aI g, 2000, .inl (nf (va_up t n 253))))]) C Fp_Mod_169 0 rfl rfl (by first | rfl | decide) (Nat.le_of_ble_eq_true rfl) rfl d_Mod_compact_111 ?_
                refine j_iload_n (pc := 114) C d_Mod_compact_114 rfl 0 rfl ?_
                refine j_if_leN (pc := 115) (tgt := 126) C (by omega) d_Mod_compact_115 rfl (fun c115 => ?_) (fun c115 => ?_)
                · exfalso; omega
                · skip
                  refine j_aload_n (pc := 118) C d_Mod_compact_118 rfl 1 rfl ?_
                  refine j_lload_n (pc := 119) C d_Mod_compact_119 rfl 2 rfl ?_
                  refine j_iload_n (pc := 120) C d_Mod_compact_120 rfl 0 rfl ?_
                  refine j_iconst (pc := 121) (v := nI 1) C d_Mod_compact_121 (by decide) ?_
                  refine j_callV (pc := 122) (As := [.long (lN V), .int (nI 2), .int (nI 1)]) (rest := []) (wc := [(o, .inr (6, mo a (nI (n + 1)) le ib mn pl q wr z db)), (a 0, .inl (aI g, 2000, .inl (nf (va_up t n 253))))]) (wr := []) C (c_Mod_lay_lo (kl κ) g o a (n + 1) (va_up t n 253) (lN V) (nI 2) le ib mn pl db q wr z (by omega)) Y_Mod_lay ml_Mod_165 im_Mod_lay sl_Mod_lay rfl ⟨by decide, by decide⟩ rfl (ci := 6) (q0 := 0) rfl rfl rfl (Nat.le_of_ble_eq_true rfl) (j_sb [0, 1] rfl rfl) rfl d_Mod_compact_122 (fun r w1 hO => ?_)
                  obtain ⟨rfl, rfl⟩ := hO
                  show j_V g κ 0 0 125 [(3, .int (nI 2)), (0, .ref o), (1, .long (lN V))] [.int (b2 (pOk (n + 1) (nI 2)))] ([(o, .inr (6, mo a (nI (pN (n + 1) (nI 2))) le ib mn pl q wr z db)), (a 0, .inl (aI g, 2000, .inl (nf (pT (va_up t n 253) (n + 1) (nI 2) (loS (lN V))))))])
                  refine j_pop (pc := 125) C d_Mod_compact_125 rfl ?_
                  refine j_iconst (pc := 126) (v := nI 1) C d_Mod_compact_126 (by decide) ?_
                  exact hR.1 _ _ _ _ d_Mod_compact_127 ⟨_, rfl, by first | rfl | decide⟩ (by have e := pOk_t (n := n + 1) (k := 2) (by decide) (by decide) (by omega); rw [pN_t e (by decide), pT_t e (by decide)]; unfold cN cT; rw [show cOk n V = true from decide_eq_true (by omega), if_pos rfl, if_pos rfl, ← cT_2 hV (by omega), hwf, vu_p1 (c := 253) (by decide), Nat.add_assoc]; exact ⟨rfl, rfl⟩)
            · exfalso; omega
          · skip
            refine j_iconst (pc := 59) (v := nI 0) C d_Mod_compact_59 (by decide) ?_
            exact hR.1 _ _ _ _ d_Mod_compact_60 ⟨_, rfl, by first | rfl | decide⟩ (by unfold cN cT; rw [show cOk n V = false from decide_eq_false (by omega)]; exact ⟨rfl, rfl⟩)
      · skip
        have hV3 := wzd_2 (c := 65536) rfl hV6 (by decide) c24
        have hwf : wFit V = 4 := by unfold wFit; rw [if_neg (by omega), if_neg (by omega), if_pos (by omega)]
        refine j_iconst (pc := 27) (v := nI 4) C d_Mod_compact_27 (by decide) ?_
        refine j_goto (pc := 28) (tgt := 44) C d_Mod_compact_28 rfl ?_
        refine j_istore_n (pc := 44) (lv' := [(3, .int (nI 4)), (0, .ref o), (1, .long (lN V))]) C d_Mod_compact_44 rfl (by decide) rfl ?_
        refine j_aload_n (pc := 45) C d_Mod_compact_45 rfl 1 rfl ?_
        refine j_get (pc := 46) C F_Mod_169 0 rfl rfl d_Mod_compact_46 ?_
        refine j_iconst (pc := 49) (v := nI 1) C d_Mod_compact_49 (by decide) ?_
        refine j_iaddN (pc := 50) C d_Mod_compact_50 ?_
        refine j_iload_n (pc := 51) C d_Mod_compact_51 rfl 0 rfl ?_
        refine j_iaddN (pc := 52) C d_Mod_compact_52 ?_
        refine j_sipush (pc := 53) (v := nI 2000) C d_Mod_compact_53 (by decide) ?_
        refine j_icmp_leN (pc := 56) (tgt := 61) C (by omega) (by omega) d_Mod_compact_56 rfl (fun c56 => ?_) (fun c56 => ?_)
        · skip
          refine j_aload_n (pc := 61) C d_Mod_compact_61 rfl 1 rfl ?_
          refine j_get (pc := 62) C F_Mod_7 0 rfl rfl d_Mod_compact_62 ?_
          refine j_aload_n (pc := 65) C d_Mod_compact_65 rfl 1 rfl ?_
          refine j_get (pc := 66) C F_Mod_169 0 rfl rfl d_Mod_compact_66 ?_
          refine j_iload_n (pc := 69) C d_Mod_compact_69 rfl 0 rfl ?_
          refine j_if_neN (pc := 70) (tgt := 78) C (by omega) d_Mod_compact_70 rfl (fun c70 => ?_) (fun c70 => ?_)
          · skip
            refine j_iload_n (pc := 78) C d_Mod_compact_78 rfl 0 rfl ?_
            refine j_iconst (pc := 79) (v := nI 2) C d_Mod_compact_79 (by decide) ?_
            refine j_icmp_neN (pc := 80) (tgt := 89) C (by omega) (by omega) d_Mod_compact_80 rfl (fun c80 => ?_) (fun c80 => ?_)
            · skip
              refine j_iload_n (pc := 89) C d_Mod_compact_89 rfl 0 rfl ?_
              refine j_iconst (pc := 90) (v := nI 4) C d_Mod_compact_90 (by decide) ?_
              refine j_icmp_neN (pc := 91) (tgt := 100) C (by omega) (by omega) d_Mod_compact_91 rfl (fun c91 => ?_) (fun c91 => ?_)
              · exfalso; omega
              · skip
                refine j_sipush (pc := 94) (v := nI 254) C d_Mod_compact_94 (by decide) ?_
                refine j_goto (pc := 97) (tgt := 103) C d_Mod_compact_97 rfl ?_
                refine j_iastB (pc := 103) (ws' := [(o, .inr (6, mo a (nI n) le ib mn pl q wr z db)), (a 0, .inl (aI g, 2000, .inl (nf (va_up t n 254))))]) C 1 1 rfl rfl (by omega) (by omega) rfl d_Mod_compact_103 ?_
                refine j_aload_n (pc := 104) C d_Mod_compact_104 rfl 1 rfl ?_
                refine j_aload_n (pc := 105) C d_Mod_compact_105 rfl 1 rfl ?_
                refine j_get (pc := 106) C F_Mod_169 0 rfl rfl d_Mod_compact_106 ?_
                refine j_iconst (pc := 109) (v := nI 1) C d_Mod_compact_109 (by decide) ?_
                refine j_iaddN (pc := 110) C d_Mod_compact_110 ?_
                refine j_put (pc := 111) (ws' := [(o, .inr (6, mo a (nI (n + 1)) le ib mn pl q wr z db)), (a 0, .inl (aI g, 2000, .inl (nf (va_up t n 254))))]) C Fp_Mod_169 0 rfl rfl (by first | rfl | decide) (Nat.le_of_ble_eq_true rfl) rfl d_Mod_compact_111 ?_
                refine j_iload_n (pc := 114) C d_Mod_compact_114 rfl 0 rfl ?_
                refine j_if_leN (pc := 115) (tgt := 126) C (by omega) d_Mod_compact_115 rfl (fun c115 => ?_) (fun c115 => ?_)
                · exfalso; omega
                · skip
                  refine j_aload_n (pc := 118) C d_Mod_compact_118 rfl 1 rfl ?_
                  refine j_lload_n (pc := 119) C d_Mod_compact_119 rfl 2 rfl ?_
                  refine j_iload_n (pc := 120) C d_Mod_compact_120 rfl 0 rfl ?_
                  refine j_iconst (pc := 121) (v := nI 1) C d_Mod_compact_121 (by decide) ?_
                  refine j_callV (pc := 122) (As := [.long (lN V), .int (nI 4), .int (nI 1)]) (rest := []) (wc := [(o, .inr (6, mo a (nI (n + 1)) le ib mn pl q wr z db)), (a 0, .inl (aI g, 2000, .inl (nf (va_up t n 254))))]) (wr := []) C (c_Mod_lay_lo (kl κ) g o a (n + 1) (va_up t n 254) (lN V) (nI 4) le ib mn pl db q wr z (by omega)) Y_Mod_lay ml_Mod_165 im_Mod_lay sl_Mod_lay rfl ⟨by decide, by decide⟩ rfl (ci := 6) (q0 := 0) rfl rfl rfl (Nat.le_of_ble_eq_true rfl) (j_sb [0, 1] rfl rfl) rfl d_Mod_compact_122 (fun r w1 hO => ?_)
                  obtain ⟨rfl, rfl⟩ := hO
                  show j_V g κ 0 0 125 [(3, .int (nI 4)), (0, .ref o), (1, .long (lN V))] [.int (b2 (pOk (n + 1) (nI 4)))] ([(o, .inr (6, mo a (nI (pN (n + 1) (nI 4))) le ib mn pl q wr z db)), (a 0, .inl (aI g, 2000, .inl (nf (pT (va_up t n 254) (n + 1) (nI 4) (loS (lN V))))))])
                  refine j_pop (pc := 125) C d_Mod_compact_125 rfl ?_
                  refine j_iconst (pc := 126) (v := nI 1) C d_Mod_compact_126 (by decide) ?_
                  exact hR.1 _ _ _ _ d_Mod_compact_127 ⟨_, rfl, by first | rfl | decide⟩ (by have e := pOk_t (n := n + 1) (k := 4) (by decide) (by decide) (by omega); rw [pN_t e (by decide), pT_t e (by decide)]; unfold cN cT; rw [show cOk n V = true from decide_eq_true (by omega), if_pos rfl, if_pos rfl, ← cT_2 hV (by omega), hwf, vu_p1 (c := 254) (by decide), Nat.add_assoc]; exact ⟨rfl, rfl⟩)
            · exfalso; omega
          · exfalso; omega
        · skip
          refine j_iconst (pc := 59) (v := nI 0) C d_Mod_compact_59 (by decide) ?_
          exact hR.1 _ _ _ _ d_Mod_compact_60 ⟨_, rfl, by first | rfl | decide⟩ (by unfold cN cT; rw [show cOk n V = false from decide_eq_false (by omega)]; exact ⟨rfl, rfl⟩)
    · skip
      have hV3 := wzd_2 (c := 4294967296) rfl hV6 (by decide) c11
      have hwf : wFit V = 8 := by unfold wFit; rw [if_neg (by omega), if_neg (by omega), if_neg (by omega)]
      refine j_bipush (pc := 14) (v := nI 8) C d_Mod_compact_14 (by decide) ?_
      refine j_goto (pc := 16) (tgt := 44) C d_Mod_compact_16 rfl ?_
      refine j_istore_n (pc := 44) (lv' := [(3, .int (nI 8)), (0, .ref o), (1, .long (lN V))]) C d_Mod_compact_44 rfl (by decide) rfl ?_
      refine j_aload_n (pc := 45) C d_Mod_compact_45 rfl 1 rfl ?_
      refine j_get (pc := 46) C F_Mod_169 0 rfl rfl d_Mod_compact_46 ?_
      refine j_iconst (pc := 49) (v := nI 1) C d_Mod_compact_49 (by decide) ?_
      refine j_iaddN (pc := 50) C d_Mod_compact_50 ?_
      refine j_iload_n (pc := 51) C d_Mod_compact_51 rfl 0 rfl ?_
      refine j_iaddN (pc := 52) C d_Mod_compact_52 ?_
      refine j_sipush (pc := 53) (v := nI 2000) C d_Mod_compact_53 (by decide) ?_
      refine j_icmp_leN (pc := 56) (tgt := 61) C (by omega) (by omega) d_Mod_compact_56 rfl (fun c56 => ?_) (fun c56 => ?_)
      · skip
        refine j_aload_n (pc := 61) C d_Mod_compact_61 rfl 1 rfl ?_
        refine j_get (pc := 62) C F_Mod_7 0 rfl rfl d_Mod_compact_62 ?_
        refine j_aload_n (pc := 65) C d_Mod_compact_65 rfl 1 rfl ?_
        refine j_get (pc := 66) C F_Mod_169 0 rfl rfl d_Mod_compact_66 ?_
        refine j_iload_n (pc := 69) C d_Mod_compact_69 rfl 0 rfl ?_
        refine j_if_neN (pc := 70) (tgt := 78) C (by omega) d_Mod_compact_70 rfl (fun c70 => ?_) (fun c70 => ?_)
        · skip
          refine j_iload_n (pc := 78) C d_Mod_compact_78 rfl 0 rfl ?_
          refine j_iconst (pc := 79) (v := nI 2) C d_Mod_compact_79 (by decide) ?_
          refine j_icmp_neN (pc := 80) (tgt := 89) C (by omega) (by omega) d_Mod_compact_80 rfl (fun c80 => ?_) (fun c80 => ?_)
          · skip
            refine j_iload_n (pc := 89) C d_Mod_compact_89 rfl 0 rfl ?_
            refine j_iconst (pc := 90) (v := nI 4) C d_Mod_compact_90 (by decide) ?_
            refine j_icmp_neN (pc := 91) (tgt := 100) C (by omega) (by omega) d_Mod_compact_91 rfl (fun c91 => ?_) (fun c91 => ?_)
            · skip
              refine j_sipush (pc := 100) (v := nI 255) C d_Mod_compact_100 (by decide) ?_
              refine j_iastB (pc := 103) (ws' := [(o, .inr (6, mo a (nI n) le ib mn pl q wr z db)), (a 0, .inl (aI g, 2000, .inl (nf (va_up t n 255))))]) C 1 1 rfl rfl (by omega) (by omega) rfl d_Mod_compact_103 ?_
              refine j_aload_n (pc := 104) C d_Mod_compact_104 rfl 1 rfl ?_
              refine j_aload_n (pc := 105) C d_Mod_compact_105 rfl 1 rfl ?_
              refine j_get (pc := 106) C F_Mod_169 0 rfl rfl d_Mod_compact_106 ?_
              refine j_iconst (pc := 109) (v := nI 1) C d_Mod_compact_109 (by decide) ?_
              refine j_iaddN (pc := 110) C d_Mod_compact_110 ?_
              refine j_put (pc := 111) (ws' := [(o, .inr (6, mo a (nI (n + 1)) le ib mn pl q wr z db)), (a 0, .inl (aI g, 2000, .inl (nf (va_up t n 255))))]) C Fp_Mod_169 0 rfl rfl (by first | rfl | decide) (Nat.le_of_ble_eq_true rfl) rfl d_Mod_compact_111 ?_
              refine j_iload_n (pc := 114) C d_Mod_compact_114 rfl 0 rfl ?_
              refine j_if_leN (pc := 115) (tgt := 126) C (by omega) d_Mod_compact_115 rfl (fun c115 => ?_) (fun c115 => ?_)
              · exfalso; omega
              · skip
                refine j_aload_n (pc := 118) C d_Mod_compact_118 rfl 1 rfl ?_
                refine j_lload_n (pc := 119) C d_Mod_compact_119 rfl 2 rfl ?_
                refine j_iload_n (pc := 120) C d_Mod_compact_120 rfl 0 rfl ?_
                refine j_iconst (pc := 121) (v := nI 1) C d_Mod_compact_121 (by decide) ?_
                refine j_callV (pc := 122) (As := [.long (lN V), .int (nI 8), .int (nI 1)]) (rest := []) (wc := [(o, .inr (6, mo a (nI (n + 1)) le ib mn pl q wr z db)), (a 0, .inl (aI g, 2000, .inl (nf (va_up t n 255))))]) (wr := []) C (c_Mod_lay_lo (kl κ) g o a (n + 1) (va_up t n 255) (lN V) (nI 8) le ib mn pl db q wr z (by omega)) Y_Mod_lay ml_Mod_165 im_Mod_lay sl_Mod_lay rfl ⟨by decide, by decide⟩ rfl (ci := 6) (q0 := 0) rfl rfl rfl (Nat.le_of_ble_eq_true rfl) (j_sb [0, 1] rfl rfl) rfl d_Mod_compact_122 (fun r w1 hO => ?_)
                obtain ⟨rfl, rfl⟩ := hO
                show j_V g κ 0 0 125 [(3, .int (nI 8)), (0, .ref o), (1, .long (lN V))] [.int (b2 (pOk (n + 1) (nI 8)))] ([(o, .inr (6, mo a (nI (pN (n + 1) (nI 8))) le ib mn pl q wr z db)), (a 0, .inl (aI g, 2000, .inl (nf (pT (va_up t n 255) (n + 1) (nI 8) (loS (lN V))))))])
                refine j_pop (pc := 125) C d_Mod_compact_125 rfl ?_
                refine j_iconst (pc := 126) (v := nI 1) C d_Mod_compact_126 (by decide) ?_
                exact hR.1 _ _ _ _ d_Mod_compact_127 ⟨_, rfl, by first | rfl | decide⟩ (by have e := pOk_t (n := n + 1) (k := 8) (by decide) (by decide) (by omega); rw [pN_t e (by decide), pT_t e (by decide)]; unfold cN cT; rw [show cOk n V = true from decide_eq_true (by omega), if_pos rfl, if_pos rfl, ← cT_2 hV (by omega), hwf, vu_p1 (c := 255) (by decide), Nat.add_assoc]; exact ⟨rfl, rfl⟩)
            · exfalso; omega
          · exfalso; omega
        · exfalso; omega
      · skip
        refine j_iconst (pc := 59) (v := nI 0) C d_Mod_compact_59 (by decide) ?_
        exact hR.1 _ _ _ _ d_Mod_compact_60 ⟨_, rfl, by first | rfl | decide⟩ (by unfold cN cT; rw [show cOk n V = false from decide_eq_false (by omega)]; exact ⟨rfl, rfl⟩)
abbrev rm_Mod_place : Room := { frames := 0, cells := 0, slots := 0, locals := 0 }
set_option maxHeartbeats 4000000 in
set_option maxRecDepth 100000 in
theorem c_Mod_place (l : Launch) (g : JX) (o : Nat) (a : Nat → Nat) (n : Nat) (sz ib mn pl db q wr z : Int32)  : j_Ct l y_Mod_place b_Mod_place 1 (some .int) rm_Mod_place g ([(o, .inr (6, mo a sz (nI n) ib mn pl q wr z db))]) [.ref o] (fun r w => r = some (.int pl) ∧ w = [(o, .inr (6, mo a sz (nI n) ib mn pl q wr z db))]) 0 0 := by
  refine j_ct (by decide) (Nat.le_of_ble_eq_true rfl) (fun κ hkl C hR hI => ?_)
  show j_V g κ 0 0 0 [(0, .ref o)] [] ([(o, .inr (6, mo a sz (nI n) ib mn pl q wr z db))])
  refine j_aload_n (pc := 0) C d_Mod_place_0 rfl 0 rfl ?_
  refine j_get (pc := 1) C F_Mod_16 0 rfl rfl d_Mod_place_1 ?_
  exact hR.1 _ _ _ _ d_Mod_place_4 ⟨_, rfl, by first | rfl | decide⟩ (⟨rfl, rfl⟩)
abbrev rm_Mod_byteOf : Room := { frames := 0, cells := 0, slots := 0, locals := 0 }
set_option maxHeartbeats 4000000 in
set_option maxRecDepth 100000 in
theorem c_Mod_byteOf (l : Launch) (g : JX) (o : Nat) (a : Nat → Nat) (n : Nat) (t : Nat → Nat) (x : Int32) (sz ib mn pl db q wr z : Int32) (hn : n ≤ 2000) (hT : ∀ j, t j < 256) : j_Ct l y_Mod_byteOf b_Mod_byteOf 2 (some .int) rm_Mod_byteOf g ([(o, .inr (6, mo a sz (nI n) ib mn pl q wr z db)), (a 1, .inl (aI g, 2000, .inl (nf t)))]) [.ref o, .int x] (fun r w => r = some (.int (atI t n x)) ∧ w = [(o, .inr (6, mo a sz (nI n) ib mn pl q wr z db)), (a 1, .inl (aI g, 2000, .inl (nf t)))]) 0 0 := by
  refine j_ct (by decide) (Nat.le_of_ble_eq_true rfl) (fun κ hkl C hR hI => ?_)
  show j_V g κ 0 0 0 [(0, .ref o), (1, .int x)] [] ([(o, .inr (6, mo a sz (nI n) ib mn pl q wr z db)), (a 1, .inl (aI g, 2000, .inl (nf t)))])
  rcases pk_ix x (n := n) (by omega) with hx | hx | ⟨p, hp, rfl⟩
  · skip
    refine j_iload_n (pc := 0) C d_Mod_byteOf_0 rfl 1 rfl ?_
    refine j_if_lt (pc := 1) (tgt := 21) C d_Mod_byteOf_1 rfl (fun c1 => ?_) (fun c1 => ?_)
    · skip
      refine j_iconst (pc := 21) (v := (-1 : Int32)) C d_Mod_byteOf_21 (by decide) ?_
      exact hR.1 _ _ _ _ d_Mod_byteOf_22 ⟨_, rfl, by first | rfl | decide⟩ (⟨by first | (exfalso; omega) | rw [atI_neg (by assumption)] | rw [atI_big (by assumption)] | (rw [atI_in hp (by omega)]; rfl) | (exfalso; omega), rfl⟩)
    · skip
      refine j_iload_n (pc := 4) C d_Mod_byteOf_4 rfl 1 rfl ?_
      refine j_aload_n (pc := 5) C d_Mod_byteOf_5 rfl 0 rfl ?_
      refine j_get (pc := 6) C F_Mod_146 0 rfl rfl d_Mod_byteOf_6 ?_
      refine j_icmp_ge (pc := 9) (tgt := 21) C d_Mod_byteOf_9 rfl (fun c9 => ?_) (fun c9 => ?_)
      · skip
        refine j_iconst (pc := 21) (v := (-1 : Int32)) C d_Mod_byteOf_21 (by decide) ?_
        exact hR.1 _ _ _ _ d_Mod_byteOf_22 ⟨_, rfl, by first | rfl | decide⟩ (⟨by first | (exfalso; omega) | rw [atI_neg (by assumption)] | rw [atI_big (by assumption)] | (rw [atI_in hp (by omega)]; rfl) | (exfalso; omega), rfl⟩)
      · skip
        first | exact absurd (by assumption) c9 | exact absurd (by assumption) c1
  · skip
    refine j_iload_n (pc := 0) C d_Mod_byteOf_0 rfl 1 rfl ?_
    refine j_if_lt (pc := 1) (tgt := 21) C d_Mod_byteOf_1 rfl (fun c1 => ?_) (fun c1 => ?_)
    · skip
      refine j_iconst (pc := 21) (v := (-1 : Int32)) C d_Mod_byteOf_21 (by decide) ?_
      exact hR.1 _ _ _ _ d_Mod_byteOf_22 ⟨_, rfl, by first | rfl | decide⟩ (⟨by first | (exfalso; omega) | rw [atI_neg (by assumption)] | rw [atI_big (by assumption)] | (rw [atI_in hp (by omega)]; rfl) | (exfalso; omega), rfl⟩)
    · skip
      refine j_iload_n (pc := 4) C d_Mod_byteOf_4 rfl 1 rfl ?_
      refine j_aload_n (pc := 5) C d_Mod_byteOf_5 rfl 0 rfl ?_
      refine j_get (pc := 6) C F_Mod_146 0 rfl rfl d_Mod_byteOf_6 ?_
      refine j_icmp_ge (pc := 9) (tgt := 21) C d_Mod_byteOf_9 rfl (fun c9 => ?_) (fun c9 => ?_)
      · skip
        refine j_iconst (pc := 21) (v := (-1 : Int32)) C d_Mod_byteOf_21 (by decide) ?_
        exact hR.1 _ _ _ _ d_Mod_byteOf_22 ⟨_, rfl, by first | rfl | decide⟩ (⟨by first | (exfalso; omega) | rw [atI_neg (by assumption)] | rw [atI_big (by assumption)] | (rw [atI_in hp (by omega)]; rfl) | (exfalso; omega), rfl⟩)
      · skip
        first | exact absurd (by assumption) c9 | exact absurd (by assumption) c1
  · skip
    refine j_iload_n (pc := 0) C d_Mod_byteOf_0 rfl 1 rfl ?_
    refine j_if_ltN (pc := 1) (tgt := 21) C (by omega) d_Mod_byteOf_1 rfl ?_
    refine j_iload_n (pc := 4) C d_Mod_byteOf_4 rfl 1 rfl ?_
    refine j_aload_n (pc := 5) C d_Mod_byteOf_5 rfl 0 rfl ?_
    refine j_get (pc := 6) C F_Mod_146 0 rfl rfl d_Mod_byteOf_6 ?_
    refine j_icmp_geN (pc := 9) (tgt := 21) C (by omega) (by omega) d_Mod_byteOf_9 rfl (fun c9 => ?_) (fun c9 => ?_)
    · skip
      refine j_iconst (pc := 21) (v := (-1 : Int32)) C d_Mod_byteOf_21 (by decide) ?_
      exact hR.1 _ _ _ _ d_Mod_byteOf_22 ⟨_, rfl, by first | rfl | decide⟩ (⟨by first | (exfalso; omega) | rw [atI_neg (by assumption)] | rw [atI_big (by assumption)] | (rw [atI_in hp (by omega)]; rfl) | (exfalso; omega), rfl⟩)
    · skip
      refine j_aload_n (pc := 12) C d_Mod_byteOf_12 rfl 0 rfl ?_
      refine j_get (pc := 13) C F_Mod_13 0 rfl rfl d_Mod_byteOf_13 ?_
      refine j_iload_n (pc := 16) C d_Mod_byteOf_16 rfl 1 rfl ?_
      refine j_ialdN (pc := 17) C 1 1 rfl rfl (by omega) (by omega) d_Mod_byteOf_17 ?_
      refine j_goto (pc := 18) (tgt := 22) C d_Mod_byteOf_18 rfl ?_
      exact hR.1 _ _ _ _ d_Mod_byteOf_22 ⟨_, rfl, by first | rfl | decide⟩ (⟨by first | (exfalso; omega) | rw [atI_neg (by assumption)] | rw [atI_big (by assumption)] | (rw [atI_in hp (by omega)]; rfl) | (exfalso; omega), rfl⟩)
abbrev rm_Mod_isDoubtful : Room := { frames := 0, cells := 0, slots := 0, locals := 0 }
set_option maxHeartbeats 4000000 in
set_option maxRecDepth 100000 in
theorem c_Mod_isDoubtful (l : Launch) (g : JX) (o : Nat) (a : Nat → Nat) (n : Nat) (blk db : Bool) (sz mn pl q wr z : Int32)  : j_Ct l y_Mod_isDoubtful b_Mod_isDoubtful 1 (some .boolean) rm_Mod_isDoubtful g ([(o, .inr (6, mo a sz (nI n) (if blk = true then (1 : Int32) else 0) mn pl q wr z (if db = true then (1 : Int32) else 0)))]) [.ref o] (fun r w => r = some (.int (b2 (blk && db))) ∧ w = [(o, .inr (6, mo a sz (nI n) (b2 blk) mn pl q wr z (b2 db)))]) 0 0 := by
  refine j_ct (by decide) (Nat.le_of_ble_eq_true rfl) (fun κ hkl C hR hI => ?_)
  show j_V g κ 0 0 0 [(0, .ref o)] [] ([(o, .inr (6, mo a sz (nI n) (if blk = true then (1 : Int32) else 0) mn pl q wr z (if db = true then (1 : Int32) else 0)))])
  refine j_aload_n (pc := 0) C d_Mod_isDoubtful_0 rfl 0 rfl ?_
  refine j_get (pc := 1) C F_Mod_172 0 rfl rfl d_Mod_isDoubtful_1 ?_
  refine j_if_eqB (pc := 4) (tgt := 18) C d_Mod_isDoubtful_4 rfl (fun c4 => ?_) (fun c4 => ?_)
  · skip
    refine j_iconst (pc := 18) (v := nI 0) C d_Mod_isDoubtful_18 (by decide) ?_
    exact hR.1 _ _ _ _ d_Mod_isDoubtful_19 ⟨_, rfl, by first | rfl | decide⟩ (⟨by first | rw [c4, c11]; rfl | rw [c4, Bool.eq_false_iff.mpr c11]; rfl | rw [Bool.eq_false_iff.mpr c4]; rfl, rfl⟩)
  · skip
    refine j_aload_n (pc := 7) C d_Mod_isDoubtful_7 rfl 0 rfl ?_
    refine j_get (pc := 8) C F_Mod_133 0 rfl rfl d_Mod_isDoubtful_8 ?_
    refine j_if_eqB (pc := 11) (tgt := 18) C d_Mod_isDoubtful_11 rfl (fun c11 => ?_) (fun c11 => ?_)
    · skip
      refine j_iconst (pc := 18) (v := nI 0) C d_Mod_isDoubtful_18 (by decide) ?_
      exact hR.1 _ _ _ _ d_Mod_isDoubtful_19 ⟨_, rfl, by first | rfl | decide⟩ (⟨by first | rw [c4, c11]; rfl | rw [c4, Bool.eq_false_iff.mpr c11]; rfl | rw [Bool.eq_false_iff.mpr c4]; rfl, rfl⟩)
    · skip
      refine j_iconst (pc := 14) (v := nI 1) C d_Mod_isDoubtful_14 (by decide) ?_
      refine j_goto (pc := 15) (tgt := 19) C d_Mod_isDoubtful_15 rfl ?_
      exact hR.1 _ _ _ _ d_Mod_isDoubtful_19 ⟨_, rfl, by first | rfl | decide⟩ (⟨by first | rw [c4, c11]; rfl | rw [c4, Bool.eq_false_iff.mpr c11]; rfl | rw [Bool.eq_false_iff.mpr c4]; rfl, rfl⟩)
abbrev rm_Mod_isTransaction : Room := { frames := 0, cells := 0, slots := 0, locals := 0 }
set_option maxHeartbeats 4000000 in
set_option maxRecDepth 100000 in
theorem c_Mod_isTransaction (l : Launch) (g : JX) (o : Nat) (a : Nat → Nat) (n cnt : Nat) (tt : Int32) (sz ib pl db q wr z : Int32) (hc : cnt ≤ 12) : j_Ct l y_Mod_isTransaction b_Mod_isTransaction 2 (some .boolean) rm_Mod_isTransaction g ([(o, .inr (6, mo a sz (nI n) ib (nI cnt) pl q wr z db))]) [.ref o, .int tt] (fun r w => r = some (.int (if 0 ≤ tt ∧ tt < nI cnt then (1 : Int32) else 0)) ∧ w = [(o, .inr (6, mo a sz (nI n) ib (nI cnt) pl q wr z db))]) 0 0 := by
  refine j_ct (by decide) (Nat.le_of_ble_eq_true rfl) (fun κ hkl C hR hI => ?_)
  show j_V g κ 0 0 0 [(0, .ref o), (1, .int tt)] [] ([(o, .inr (6, mo a sz (nI n) ib (nI cnt) pl q wr z db))])
  rcases pk_ix tt (n := cnt) (by omega) with hx | hx | ⟨u, hu, rfl⟩
  · skip
    show j_V g κ 0 0 0 [(0, .ref o), (1, .int tt)] [] ([(o, .inr (6, mo a sz (nI n) ib (nI cnt) pl q wr z db))])
    refine j_iload_n (pc := 0) C d_Mod_isTransaction_0 rfl 1 rfl ?_
    refine j_if_lt (pc := 1) (tgt := 16) C d_Mod_isTransaction_1 rfl (fun c1 => ?_) (fun c1 => ?_)
    · skip
      refine j_iconst (pc := 16) (v := nI 0) C d_Mod_isTransaction_16 (by decide) ?_
      exact hR.1 _ _ _ _ d_Mod_isTransaction_17 ⟨_, rfl, by first | rfl | decide⟩ (⟨by first | (exfalso; omega) | (rw [if_neg (fun q => nlt0 (by assumption) q.1)]; rfl) | (rw [if_neg (fun q => nle (by assumption) q.2)]; rfl) | (rw [if_pos ⟨nI_pos' (by omega), nI_lt hu (by omega)⟩]; rfl), rfl⟩)
    · skip
      refine j_iload_n (pc := 4) C d_Mod_isTransaction_4 rfl 1 rfl ?_
      refine j_aload_n (pc := 5) C d_Mod_isTransaction_5 rfl 0 rfl ?_
      refine j_get (pc := 6) C F_Mod_130 0 rfl rfl d_Mod_isTransaction_6 ?_
      refine j_icmp_ge (pc := 9) (tgt := 16) C d_Mod_isTransaction_9 rfl (fun c9 => ?_) (fun c9 => ?_)
      · skip
        refine j_iconst (pc := 16) (v := nI 0) C d_Mod_isTransaction_16 (by decide) ?_
        exact hR.1 _ _ _ _ d_Mod_isTransaction_17 ⟨_, rfl, by first | rfl | decide⟩ (⟨by first | (exfalso; omega) | (rw [if_neg (fun q => nlt0 (by assumption) q.1)]; rfl) | (rw [if_neg (fun q => nle (by assumption) q.2)]; rfl) | (rw [if_pos ⟨nI_pos' (by omega), nI_lt hu (by omega)⟩]; rfl), rfl⟩)
      · skip
        first | exact absurd (by assumption) c9 | exact absurd (by assumption) c1
  · skip
    show j_V g κ 0 0 0 [(0, .ref o), (1, .int tt)] [] ([(o, .inr (6, mo a sz (nI n) ib (nI cnt) pl q wr z db))])
    refine j_iload_n (pc := 0) C d_Mod_isTransaction_0 rfl 1 rfl ?_
    refine j_if_lt (pc := 1) (tgt := 16) C d_Mod_isTransaction_1 rfl (fun c1 => ?_) (fun c1 => ?_)
    · skip
      refine j_iconst (pc := 16) (v := nI 0) C d_Mod_isTransaction_16 (by decide) ?_
      exact hR.1 _ _ _ _ d_Mod_isTransaction_17 ⟨_, rfl, by first | rfl | decide⟩ (⟨by first | (exfalso; omega) | (rw [if_neg (fun q => nlt0 (by assumption) q.1)]; rfl) | (rw [if_neg (fun q => nle (by assumption) q.2)]; rfl) | (rw [if_pos ⟨nI_pos' (by omega), nI_lt hu (by omega)⟩]; rfl), rfl⟩)
    · skip
      refine j_iload_n (pc := 4) C d_Mod_isTransaction_4 rfl 1 rfl ?_
      refine j_aload_n (pc := 5) C d_Mod_isTransaction_5 rfl 0 rfl ?_
      refine j_get (pc := 6) C F_Mod_130 0 rfl rfl d_Mod_isTransaction_6 ?_
      refine j_icmp_ge (pc := 9) (tgt := 16) C d_Mod_isTransaction_9 rfl (fun c9 => ?_) (fun c9 => ?_)
      · skip
        refine j_iconst (pc := 16) (v := nI 0) C d_Mod_isTransaction_16 (by decide) ?_
        exact hR.1 _ _ _ _ d_Mod_isTransaction_17 ⟨_, rfl, by first | rfl | decide⟩ (⟨by first | (exfalso; omega) | (rw [if_neg (fun q => nlt0 (by assumption) q.1)]; rfl) | (rw [if_neg (fun q => nle (by assumption) q.2)]; rfl) | (rw [if_pos ⟨nI_pos' (by omega), nI_lt hu (by omega)⟩]; rfl), rfl⟩)
      · skip
        first | exact absurd (by assumption) c9 | exact absurd (by assumption) c1
  · skip
    show j_V g κ 0 0 0 [(0, .ref o), (1, .int (nI u))] [] ([(o, .inr (6, mo a sz (nI n) ib (nI cnt) pl q wr z db))])
    refine j_iload_n (pc := 0) C d_Mod_isTransaction_0 rfl 1 rfl ?_
    refine j_if_ltN (pc := 1) (tgt := 16) C (by omega) d_Mod_isTransaction_1 rfl ?_
    refine j_iload_n (pc := 4) C d_Mod_isTransaction_4 rfl 1 rfl ?_
    refine j_aload_n (pc := 5) C d_Mod_isTransaction_5 rfl 0 rfl ?_
    refine j_get (pc := 6) C F_Mod_130 0 rfl rfl d_Mod_isTransaction_6 ?_
    refine j_icmp_geN (pc := 9) (tgt := 16) C (by omega) (by omega) d_Mod_isTransaction_9 rfl (fun c9 => ?_) (fun c9 => ?_)
    · skip
      refine j_iconst (pc := 16) (v := nI 0) C d_Mod_isTransaction_16 (by decide) ?_
      exact hR.1 _ _ _ _ d_Mod_isTransaction_17 ⟨_, rfl, by first | rfl | decide⟩ (⟨by first | (exfalso; omega) | (rw [if_neg (fun q => nlt0 (by assumption) q.1)]; rfl) | (rw [if_neg (fun q => nle (by assumption) q.2)]; rfl) | (rw [if_pos ⟨nI_pos' (by omega), nI_lt hu (by omega)⟩]; rfl), rfl⟩)
    · skip
      refine j_iconst (pc := 12) (v := nI 1) C d_Mod_isTransaction_12 (by decide) ?_
      refine j_goto (pc := 13) (tgt := 17) C d_Mod_isTransaction_13 rfl ?_
      exact hR.1 _ _ _ _ d_Mod_isTransaction_17 ⟨_, rfl, by first | rfl | decide⟩ (⟨by first | (exfalso; omega) | (rw [if_neg (fun q => nlt0 (by assumption) q.1)]; rfl) | (rw [if_neg (fun q => nle (by assumption) q.2)]; rfl) | (rw [if_pos ⟨nI_pos' (by omega), nI_lt hu (by omega)⟩]; rfl), rfl⟩)
abbrev rm_Mod_head : Room := { frames := 1, cells := 0, slots := 0, locals := 25 }
set_option maxHeartbeats 4000000 in
set_option maxRecDepth 100000 in
theorem c_Mod_head (l : Launch) (g : JX) (o : Nat) (a : Nat → Nat) (n : Nat) (blk : Bool) (t : Nat → Nat) (x : Int32) (sz mn pl db q wr z : Int32) (hn : n ≤ 2000) (hT : ∀ j, t j < 256) : j_Ct l y_Mod_head b_Mod_head 2 (some .long) rm_Mod_head g ([(o, .inr (6, mo a sz (nI n) (if blk = true then (1 : Int32) else 0) mn pl q wr z db)), (a 1, .inl (aI g, 2000, .inl (nf t)))]) [.ref o, .int x] (fun r w => r = some (.long (hdR blk t x)) ∧ w = [(o, .inr (6, mo a sz (nI n) (b2 blk) mn pl q wr z db)), (a 1, .inl (aI g, 2000, .inl (nf t)))]) 0 0 := by
  refine j_ct (by decide) (Nat.le_of_ble_eq_true rfl) (fun κ hkl C hR hI => ?_)
  show j_V g κ 0 0 0 [(0, .ref o), (1, .int x)] [] ([(o, .inr (6, mo a sz (nI n) (if blk = true then (1 : Int32) else 0) mn pl q wr z db)), (a 1, .inl (aI g, 2000, .inl (nf t)))])
  rcases pk_ix x (n := 4) (by decide) with hw | hw | ⟨q9, hq, rfl⟩
  · skip
    show j_V g κ 0 0 0 [(0, .ref o), (1, .int x)] [] ([(o, .inr (6, mo a sz (nI n) (if blk = true then (1 : Int32) else 0) mn pl q wr z db)), (a 1, .inl (aI g, 2000, .inl (nf t)))])
    refine j_aload_n (pc := 0) C d_Mod_head_0 rfl 0 rfl ?_
    refine j_get (pc := 1) C F_Mod_172 0 rfl rfl d_Mod_head_1 ?_
    refine j_if_eqB (pc := 4) (tgt := 16) C d_Mod_head_4 rfl (fun c4 => ?_) (fun c4 => ?_)
    · skip
      refine j_ldc2 (pc := 16) C k_Mod_185 d_Mod_head_16 ?_
      exact hR.2.1 _ _ _ _ d_Mod_head_19 rfl (⟨by unfold hdR; first | (exfalso; omega) | (rw [if_neg c4]) | (rw [if_pos c4, sel_neg hw]) | (rw [if_pos c4, sel_big hw]) | (rw [if_pos c4]; rfl), rfl⟩)
    · skip
      refine j_iload_n (pc := 7) C d_Mod_head_7 rfl 1 rfl ?_
      refine j_if_lt (pc := 8) (tgt := 16) C d_Mod_head_8 rfl (fun c8 => ?_) (fun c8 => ?_)
      · skip
        refine j_ldc2 (pc := 16) C k_Mod_185 d_Mod_head_16 ?_
        exact hR.2.1 _ _ _ _ d_Mod_head_19 rfl (⟨by unfold hdR; first | (exfalso; omega) | (rw [if_neg c4]) | (rw [if_pos c4, sel_neg hw]) | (rw [if_pos c4, sel_big hw]) | (rw [if_pos c4]; rfl), rfl⟩)
      · skip
        refine j_iload_n (pc := 11) C d_Mod_head_11 rfl 1 rfl ?_
        refine j_iconst (pc := 12) (v := nI 3) C d_Mod_head_12 (by decide) ?_
        refine j_icmp_le (pc := 13) (tgt := 20) C d_Mod_head_13 rfl (fun c13 => ?_) (fun c13 => ?_)
        · skip
          exfalso
          rw [Int32.lt_iff_toInt_lt, Int32.toInt_zero] at c8
          rw [Int32.le_iff_toInt_le, nI_toInt (by decide)] at c13
          first | (rw [Int32.lt_iff_toInt_lt, Int32.toInt_zero] at hw; omega) | (rw [Int32.le_iff_toInt_le, nI_toInt (by decide)] at hw; omega)
        · skip
          refine j_ldc2 (pc := 16) C k_Mod_185 d_Mod_head_16 ?_
          exact hR.2.1 _ _ _ _ d_Mod_head_19 rfl (⟨by unfold hdR; first | (exfalso; omega) | (rw [if_neg c4]) | (rw [if_pos c4, sel_neg hw]) | (rw [if_pos c4, sel_big hw]) | (rw [if_pos c4]; rfl), rfl⟩)
  · skip
    show j_V g κ 0 0 0 [(0, .ref o), (1, .int x)] [] ([(o, .inr (6, mo a sz (nI n) (if blk = true then (1 : Int32) else 0) mn pl q wr z db)), (a 1, .inl (aI g, 2000, .inl (nf t)))])
    refine j_aload_n (pc := 0) C d_Mod_head_0 rfl 0 rfl ?_
    refine j_get (pc := 1) C F_Mod_172 0 rfl rfl d_Mod_head_1 ?_
    refine j_if_eqB (pc := 4) (tgt := 16) C d_Mod_head_4 rfl (fun c4 => ?_) (fun c4 => ?_)
    · skip
      refine j_ldc2 (pc := 16) C k_Mod_185 d_Mod_head_16 ?_
      exact hR.2.1 _ _ _ _ d_Mod_head_19 rfl (⟨by unfold hdR; first | (exfalso; omega) | (rw [if_neg c4]) | (rw [if_pos c4, sel_neg hw]) | (rw [if_pos c4, sel_big hw]) | (rw [if_pos c4]; rfl), rfl⟩)
    · skip
      refine j_iload_n (pc := 7) C d_Mod_head_7 rfl 1 rfl ?_
      refine j_if_lt (pc := 8) (tgt := 16) C d_Mod_head_8 rfl (fun c8 => ?_) (fun c8 => ?_)
      · skip
        refine j_ldc2 (pc := 16) C k_Mod_185 d_Mod_head_16 ?_
        exact hR.2.1 _ _ _ _ d_Mod_head_19 rfl (⟨by unfold hdR; first | (exfalso; omega) | (rw [if_neg c4]) | (rw [if_pos c4, sel_neg hw]) | (rw [if_pos c4, sel_big hw]) | (rw [if_pos c4]; rfl), rfl⟩)
      · skip
        refine j_iload_n (pc := 11) C d_Mod_head_11 rfl 1 rfl ?_
        refine j_iconst (pc := 12) (v := nI 3) C d_Mod_head_12 (by decide) ?_
        refine j_icmp_le (pc := 13) (tgt := 20) C d_Mod_head_13 rfl (fun c13 => ?_) (fun c13 => ?_)
        · skip
          exfalso
          rw [Int32.lt_iff_toInt_lt, Int32.toInt_zero] at c8
          rw [Int32.le_iff_toInt_le, nI_toInt (by decide)] at c13
          first | (rw [Int32.lt_iff_toInt_lt, Int32.toInt_zero] at hw; omega) | (rw [Int32.le_iff_toInt_le, nI_toInt (by decide)] at hw; omega)
        · skip
          refine j_ldc2 (pc := 16) C k_Mod_185 d_Mod_head_16 ?_
          exact hR.2.1 _ _ _ _ d_Mod_head_19 rfl (⟨by unfold hdR; first | (exfalso; omega) | (rw [if_neg c4]) | (rw [if_pos c4, sel_neg hw]) | (rw [if_pos c4, sel_big hw]) | (rw [if_pos c4]; rfl), rfl⟩)
  · rcases (by omega : q9 = 0 ∨ q9 = 1 ∨ q9 = 2 ∨ q9 = 3) with rfl | rfl | rfl | rfl
    · skip
      show j_V g κ 0 0 0 [(0, .ref o), (1, .int (nI 0))] [] ([(o, .inr (6, mo a sz (nI n) (if blk = true then (1 : Int32) else 0) mn pl q wr z db)), (a 1, .inl (aI g, 2000, .inl (nf t)))])
      refine j_aload_n (pc := 0) C d_Mod_head_0 rfl 0 rfl ?_
      refine j_get (pc := 1) C F_Mod_172 0 rfl rfl d_Mod_head_1 ?_
      refine j_if_eqB (pc := 4) (tgt := 16) C d_Mod_head_4 rfl (fun c4 => ?_) (fun c4 => ?_)
      · skip
        refine j_ldc2 (pc := 16) C k_Mod_185 d_Mod_head_16 ?_
        exact hR.2.1 _ _ _ _ d_Mod_head_19 rfl (⟨by unfold hdR; first | (exfalso; omega) | (rw [if_neg c4]) | (rw [if_pos c4, sel_neg hw]) | (rw [if_pos c4, sel_big hw]) | (rw [if_pos c4]; rfl), rfl⟩)
      · skip
        refine j_iload_n (pc := 7) C d_Mod_head_7 rfl 1 rfl ?_
        refine j_if_ltN (pc := 8) (tgt := 16) C (by omega) d_Mod_head_8 rfl ?_
        refine j_iload_n (pc := 11) C d_Mod_head_11 rfl 1 rfl ?_
        refine j_iconst (pc := 12) (v := nI 3) C d_Mod_head_12 (by decide) ?_
        refine j_icmp_leN (pc := 13) (tgt := 20) C (by omega) (by omega) d_Mod_head_13 rfl (fun c13 => ?_) (fun c13 => ?_)
        · skip
          refine j_aload_n (pc := 20) C d_Mod_head_20 rfl 0 rfl ?_
          refine j_iload_n (pc := 21) C d_Mod_head_21 rfl 1 rfl ?_
          refine j_if_neN (pc := 22) (tgt := 29) C (by omega) d_Mod_head_22 rfl (fun c22 => ?_) (fun c22 => ?_)
          · exfalso; omega
          · skip
            refine j_iconst (pc := 25) (v := nI 0) C d_Mod_head_25 (by decide) ?_
            refine j_goto (pc := 26) (tgt := 35) C d_Mod_head_26 rfl ?_
            refine j_iconst (pc := 35) (v := nI 4) C d_Mod_head_35 (by decide) ?_
            refine j_callV (pc := 36) (As := [.int (nI 0), .int (nI 4)]) (rest := []) (wc := [(o, .inr (6, mo a sz (nI n) (if blk = true then (1 : Int32) else 0) mn pl q wr z db)), (a 1, .inl (aI g, 2000, .inl (nf t)))]) (wr := []) C (c_Mod_lowAt (kl κ) g o a n 0 4 t sz (if blk = true then (1 : Int32) else 0) mn pl db q wr z hT (by omega) (by omega)) Y_Mod_lowAt ml_Mod_156 im_Mod_lowAt sl_Mod_lowAt rfl ⟨by decide, by decide⟩ rfl (ci := 6) (q0 := 0) rfl rfl rfl (Nat.le_of_ble_eq_true rfl) (j_sb [0, 1] rfl rfl) rfl d_Mod_head_36 (fun r w1 hO => ?_)
            obtain ⟨rfl, rfl⟩ := hO
            show j_V g κ 0 0 39 [(0, .ref o), (1, .int (nI 0))] [.long (lN (lf t 0 4))] ([(o, .inr (6, mo a sz (nI n) (if blk = true then (1 : Int32) else 0) mn pl q wr z db)), (a 1, .inl (aI g, 2000, .inl (nf t)))])
            exact hR.2.1 _ _ _ _ d_Mod_head_39 rfl (⟨by unfold hdR; first | (exfalso; omega) | (rw [if_neg c4]) | (rw [if_pos c4, sel_neg hw]) | (rw [if_pos c4, sel_big hw]) | (rw [if_pos c4]; rfl), rfl⟩)
        · exfalso; omega
    · skip
      show j_V g κ 0 0 0 [(0, .ref o), (1, .int (nI 1))] [] ([(o, .inr (6, mo a sz (nI n) (if blk = true then (1 : Int32) else 0) mn pl q wr z db)), (a 1, .inl (aI g, 2000, .inl (nf t)))])
      refine j_aload_n (pc := 0) C d_Mod_head_0 rfl 0 rfl ?_
      refine j_get (pc := 1) C F_Mod_172 0 rfl rfl d_Mod_head_1 ?_
      refine j_if_eqB (pc := 4) (tgt := 16) C d_Mod_head_4 rfl (fun c4 => ?_) (fun c4 => ?_)
      · skip
        refine j_ldc2 (pc := 16) C k_Mod_185 d_Mod_head_16 ?_
        exact hR.2.1 _ _ _ _ d_Mod_head_19 rfl (⟨by unfold hdR; first | (exfalso; omega) | (rw [if_neg c4]) | (rw [if_pos c4, sel_neg hw]) | (rw [if_pos c4, sel_big hw]) | (rw [if_pos c4]; rfl), rfl⟩)
      · skip
        refine j_iload_n (pc := 7) C d_Mod_head_7 rfl 1 rfl ?_
        refine j_if_ltN (pc := 8) (tgt := 16) C (by omega) d_Mod_head_8 rfl ?_
        refine j_iload_n (pc := 11) C d_Mod_head_11 rfl 1 rfl ?_
        refine j_iconst (pc := 12) (v := nI 3) C d_Mod_head_12 (by decide) ?_
        refine j_icmp_leN (pc := 13) (tgt := 20) C (by omega) (by omega) d_Mod_head_13 rfl (fun c13 => ?_) (fun c13 => ?_)
        · skip
          refine j_aload_n (pc := 20) C d_Mod_head_20 rfl 0 rfl ?_
          refine j_iload_n (pc := 21) C d_Mod_head_21 rfl 1 rfl ?_
          refine j_if_neN (pc := 22) (tgt := 29) C (by omega) d_Mod_head_22 rfl (fun c22 => ?_) (fun c22 => ?_)
          · skip
            refine j_bipush (pc := 29) (v := nI 64) C d_Mod_head_29 (by decide) ?_
            refine j_iconst (pc := 31) (v := nI 4) C d_Mod_head_31 (by decide) ?_
            refine j_iload_n (pc := 32) C d_Mod_head_32 rfl 1 rfl ?_
            refine j_imulN (pc := 33) C d_Mod_head_33 ?_
            refine j_iaddN (pc := 34) C d_Mod_head_34 ?_
            refine j_iconst (pc := 35) (v := nI 4) C d_Mod_head_35 (by decide) ?_
            refine j_callV (pc := 36) (As := [.int (nI (64 + (4 * 1))), .int (nI 4)]) (rest := []) (wc := [(o, .inr (6, mo a sz (nI n) (if blk = true then (1 : Int32) else 0) mn pl q wr z db)), (a 1, .inl (aI g, 2000, .inl (nf t)))]) (wr := []) C (c_Mod_lowAt (kl κ) g o a n (64 + (4 * 1)) 4 t sz (if blk = true then (1 : Int32) else 0) mn pl db q wr z hT (by omega) (by omega)) Y_Mod_lowAt ml_Mod_156 im_Mod_lowAt sl_Mod_lowAt rfl ⟨by decide, by decide⟩ rfl (ci := 6) (q0 := 0) rfl rfl rfl (Nat.le_of_ble_eq_true rfl) (j_sb [0, 1] rfl rfl) rfl d_Mod_head_36 (fun r w1 hO => ?_)
            obtain ⟨rfl, rfl⟩ := hO
            show j_V g κ 0 0 39 [(0, .ref o), (1, .int (nI 1))] [.long (lN (lf t (64 + (4 * 1)) 4))] ([(o, .inr (6, mo a sz (nI n) (if blk = true then (1 : Int32) else 0) mn pl q wr z db)), (a 1, .inl (aI g, 2000, .inl (nf t)))])
            exact hR.2.1 _ _ _ _ d_Mod_head_39 rfl (⟨by unfold hdR; first | (exfalso; omega) | (rw [if_neg c4]) | (rw [if_pos c4, sel_neg hw]) | (rw [if_pos c4, sel_big hw]) | (rw [if_pos c4]; rfl), rfl⟩)
          · exfalso; omega
        · exfalso; omega
    · skip
      show j_V g κ 0 0 0 [(0, .ref o), (1, .int (nI 2))] [] ([(o, .inr (6, mo a sz (nI n) (if blk = true then (1 : Int32) else 0) mn pl q wr z db)), (a 1, .inl (aI g, 2000, .inl (nf t)))])
      refine j_aload_n (pc := 0) C d_Mod_head_0 rfl 0 rfl ?_
      refine j_get (pc := 1) C F_Mod_172 0 rfl rfl d_Mod_head_1 ?_
      refine j_if_eqB (pc := 4) (tgt := 16) C d_Mod_head_4 rfl (fun c4 => ?_) (fun c4 => ?_)
      · skip
        refine j_ldc2 (pc := 16) C k_Mod_185 d_Mod_head_16 ?_
        exact hR.2.1 _ _ _ _ d_Mod_head_19 rfl (⟨by unfold hdR; first | (exfalso; omega) | (rw [if_neg c4]) | (rw [if_pos c4, sel_neg hw]) | (rw [if_pos c4, sel_big hw]) | (rw [if_pos c4]; rfl), rfl⟩)
      · skip
        refine j_iload_n (pc := 7) C d_Mod_head_7 rfl 1 rfl ?_
        refine j_if_ltN (pc := 8) (tgt := 16) C (by omega) d_Mod_head_8 rfl ?_
        refine j_iload_n (pc := 11) C d_Mod_head_11 rfl 1 rfl ?_
        refine j_iconst (pc := 12) (v := nI 3) C d_Mod_head_12 (by decide) ?_
        refine j_icmp_leN (pc := 13) (tgt := 20) C (by omega) (by omega) d_Mod_head_13 rfl (fun c13 => ?_) (fun c13 => ?_)
        · skip
          refine j_aload_n (pc := 20) C d_Mod_head_20 rfl 0 rfl ?_
          refine j_iload_n (pc := 21) C d_Mod_head_21 rfl 1 rfl ?_
          refine j_if_neN (pc := 22) (tgt := 29) C (by omega) d_Mod_head_22 rfl (fun c22 => ?_) (fun c22 => ?_)
          · skip
            refine j_bipush (pc := 29) (v := nI 64) C d_Mod_head_29 (by decide) ?_
            refine j_iconst (pc := 31) (v := nI 4) C d_Mod_head_31 (by decide) ?_
            refine j_iload_n (pc := 32) C d_Mod_head_32 rfl 1 rfl ?_
            refine j_imulN (pc := 33) C d_Mod_head_33 ?_
            refine j_iaddN (pc := 34) C d_Mod_head_34 ?_
            refine j_iconst (pc := 35) (v := nI 4) C d_Mod_head_35 (by decide) ?_
            refine j_callV (pc := 36) (As := [.int (nI (64 + (4 * 2))), .int (nI 4)]) (rest := []) (wc := [(o, .inr (6, mo a sz (nI n) (if blk = true then (1 : Int32) else 0) mn pl q wr z db)), (a 1, .inl (aI g, 2000, .inl (nf t)))]) (wr := []) C (c_Mod_lowAt (kl κ) g o a n (64 + (4 * 2)) 4 t sz (if blk = true then (1 : Int32) else 0) mn pl db q wr z hT (by omega) (by omega)) Y_Mod_lowAt ml_Mod_156 im_Mod_lowAt sl_Mod_lowAt rfl ⟨by decide, by decide⟩ rfl (ci := 6) (q0 := 0) rfl rfl rfl (Nat.le_of_ble_eq_true rfl) (j_sb [0, 1] rfl rfl) rfl d_Mod_head_36 (fun r w1 hO => ?_)
            obtain ⟨rfl, rfl⟩ := hO
            show j_V g κ 0 0 39 [(0, .ref o), (1, .int (nI 2))] [.long (lN (lf t (64 + (4 * 2)) 4))] ([(o, .inr (6, mo a sz (nI n) (if blk = true then (1 : Int32) else 0) mn pl q wr z db)), (a 1, .inl (aI g, 2000, .inl (nf t)))])
            exact hR.2.1 _ _ _ _ d_Mod_head_39 rfl (⟨by unfold hdR; first | (exfalso; omega) | (rw [if_neg c4]) | (rw [if_pos c4, sel_neg hw]) | (rw [if_pos c4, sel_big hw]) | (rw [if_pos c4]; rfl), rfl⟩)
          · exfalso; omega
        · exfalso; omega
    · skip
      show j_V g κ 0 0 0 [(0, .ref o), (1, .int (nI 3))] [] ([(o, .inr (6, mo a sz (nI n) (if blk = true then (1 : Int32) else 0) mn pl q wr z db)), (a 1, .inl (aI g, 2000, .inl (nf t)))])
      refine j_aload_n (pc := 0) C d_Mod_head_0 rfl 0 rfl ?_
      refine j_get (pc := 1) C F_Mod_172 0 rfl rfl d_Mod_head_1 ?_
      refine j_if_eqB (pc := 4) (tgt := 16) C d_Mod_head_4 rfl (fun c4 => ?_) (fun c4 => ?_)
      · skip
        refine j_ldc2 (pc := 16) C k_Mod_185 d_Mod_head_16 ?_
        exact hR.2.1 _ _ _ _ d_Mod_head_19 rfl (⟨by unfold hdR; first | (exfalso; omega) | (rw [if_neg c4]) | (rw [if_pos c4, sel_neg hw]) | (rw [if_pos c4, sel_big hw]) | (rw [if_pos c4]; rfl), rfl⟩)
      · skip
        refine j_iload_n (pc := 7) C d_Mod_head_7 rfl 1 rfl ?_
        refine j_if_ltN (pc := 8) (tgt := 16) C (by omega) d_Mod_head_8 rfl ?_
        refine j_iload_n (pc := 11) C d_Mod_head_11 rfl 1 rfl ?_
        refine j_iconst (pc := 12) (v := nI 3) C d_Mod_head_12 (by decide) ?_
        refine j_icmp_leN (pc := 13) (tgt := 20) C (by omega) (by omega) d_Mod_head_13 rfl (fun c13 => ?_) (fun c13 => ?_)
        · skip
          refine j_aload_n (pc := 20) C d_Mod_head_20 rfl 0 rfl ?_
          refine j_iload_n (pc := 21) C d_Mod_head_21 rfl 1 rfl ?_
          refine j_if_neN (pc := 22) (tgt := 29) C (by omega) d_Mod_head_22 rfl (fun c22 => ?_) (fun c22 => ?_)
          · skip
            refine j_bipush (pc := 29) (v := nI 64) C d_Mod_head_29 (by decide) ?_
            refine j_iconst (pc := 31) (v := nI 4) C d_Mod_head_31 (by decide) ?_
            refine j_iload_n (pc := 32) C d_Mod_head_32 rfl 1 rfl ?_
            refine j_imulN (pc := 33) C d_Mod_head_33 ?_
            refine j_iaddN (pc := 34) C d_Mod_head_34 ?_
            refine j_iconst (pc := 35) (v := nI 4) C d_Mod_head_35 (by decide) ?_
            refine j_callV (pc := 36) (As := [.int (nI (64 + (4 * 3))), .int (nI 4)]) (rest := []) (wc := [(o, .inr (6, mo a sz (nI n) (if blk = true then (1 : Int32) else 0) mn pl q wr z db)), (a 1, .inl (aI g, 2000, .inl (nf t)))]) (wr := []) C (c_Mod_lowAt (kl κ) g o a n (64 + (4 * 3)) 4 t sz (if blk = true then (1 : Int32) else 0) mn pl db q wr z hT (by omega) (by omega)) Y_Mod_lowAt ml_Mod_156 im_Mod_lowAt sl_Mod_lowAt rfl ⟨by decide, by decide⟩ rfl (ci := 6) (q0 := 0) rfl rfl rfl (Nat.le_of_ble_eq_true rfl) (j_sb [0, 1] rfl rfl) rfl d_Mod_head_36 (fun r w1 hO => ?_)
            obtain ⟨rfl, rfl⟩ := hO
            show j_V g κ 0 0 39 [(0, .ref o), (1, .int (nI 3))] [.long (lN (lf t (64 + (4 * 3)) 4))] ([(o, .inr (6, mo a sz (nI n) (if blk = true then (1 : Int32) else 0) mn pl q wr z db)), (a 1, .inl (aI g, 2000, .inl (nf t)))])
            exact hR.2.1 _ _ _ _ d_Mod_head_39 rfl (⟨by unfold hdR; first | (exfalso; omega) | (rw [if_neg c4]) | (rw [if_pos c4, sel_neg hw]) | (rw [if_pos c4, sel_big hw]) | (rw [if_pos c4]; rfl), rfl⟩)
          · exfalso; omega
        · exfalso; omega
