abbrev rm_Dsk_widthOfMark : Room := { frames := 0, cells := 0, slots := 0, locals := 0 }
set_option maxHeartbeats 4000000 in
set_option maxRecDepth 100000 in
theorem c_Dsk_widthOfMark (l : Launch) (g : JX) (m : Nat) (hm : m < 256) : j_Ct l y_Dsk_widthOfMark b_Dsk_widthOfMark 1 (some .int) rm_Dsk_widthOfMark g ([]) [.int (nI m)] (fun r w => r = some (.int (nI (wOf m))) ∧ w = []) 0 0 := by
  refine j_ct (by decide) (Nat.le_of_ble_eq_true rfl) (fun κ hkl C hR hI => ?_)
  show j_V g κ 0 0 0 [(0, .int (nI m))] [] ([])
  by_cases h3 : m = 253
  · subst h3
    show j_V g κ 0 0 0 [(0, .int (nI 253))] [] ([])
    refine j_iload_n (pc := 0) C d_Dsk_widthOfMark_0 rfl 0 rfl ?_
    refine j_tableIn (pc := 1) (tgt := 28) C d_Dsk_widthOfMark_1 (by decide) (by decide) rfl (by decide) ?_
    refine j_iconst (pc := 28) (v := nI 2) C d_Dsk_widthOfMark_28 (by decide) ?_
    exact hR.1 _ _ _ _ d_Dsk_widthOfMark_29 ⟨_, rfl, by first | rfl | decide⟩ (⟨by first | rfl | (unfold wOf; rw [if_neg h3, if_neg h4, if_neg h5]), rfl⟩)
  by_cases h4 : m = 254
  · subst h4
    show j_V g κ 0 0 0 [(0, .int (nI 254))] [] ([])
    refine j_iload_n (pc := 0) C d_Dsk_widthOfMark_0 rfl 0 rfl ?_
    refine j_tableIn (pc := 1) (tgt := 30) C d_Dsk_widthOfMark_1 (by decide) (by decide) rfl (by decide) ?_
    refine j_iconst (pc := 30) (v := nI 4) C d_Dsk_widthOfMark_30 (by decide) ?_
    exact hR.1 _ _ _ _ d_Dsk_widthOfMark_31 ⟨_, rfl, by first | rfl | decide⟩ (⟨by first | rfl | (unfold wOf; rw [if_neg h3, if_neg h4, if_neg h5]), rfl⟩)
  by_cases h5 : m = 255
  · subst h5
    show j_V g κ 0 0 0 [(0, .int (nI 255))] [] ([])
    refine j_iload_n (pc := 0) C d_Dsk_widthOfMark_0 rfl 0 rfl ?_
    refine j_tableIn (pc := 1) (tgt := 32) C d_Dsk_widthOfMark_1 (by decide) (by decide) rfl (by decide) ?_
    refine j_bipush (pc := 32) (v := nI 8) C d_Dsk_widthOfMark_32 (by decide) ?_
    exact hR.1 _ _ _ _ d_Dsk_widthOfMark_34 ⟨_, rfl, by first | rfl | decide⟩ (⟨by first | rfl | (unfold wOf; rw [if_neg h3, if_neg h4, if_neg h5]), rfl⟩)
  show j_V g κ 0 0 0 [(0, .int (nI m))] [] ([])
  refine j_iload_n (pc := 0) C d_Dsk_widthOfMark_0 rfl 0 rfl ?_
  refine j_tableOut (pc := 1) (tgt := 35) C d_Dsk_widthOfMark_1 (by rw [nI_toInt (by omega)]; omega) (by decide) ?_
  refine j_iconst (pc := 35) (v := nI 0) C d_Dsk_widthOfMark_35 (by decide) ?_
  exact hR.1 _ _ _ _ d_Dsk_widthOfMark_36 ⟨_, rfl, by first | rfl | decide⟩ (⟨by first | rfl | (unfold wOf; rw [if_neg h3, if_neg h4, if_neg h5]), rfl⟩)
theorem lg_ne (x y : Int64) : lg_cmp x y = 0 ↔ x = y := by
  unfold lg_cmp
  rcases lg_tri x y with h | h | h
  · rw [if_neg (lg_lt_not h), if_neg (lg_lt_ne h)]; exact ⟨fun q => absurd q (by decide), fun q => absurd q (lg_lt_ne h)⟩
  · subst h
    have : ¬ x < x := fun q => lg_lt_not q q
    rw [if_neg this, if_pos rfl]; exact ⟨fun _ => rfl, fun _ => rfl⟩
  · rw [if_pos h]; exact ⟨fun q => absurd q (by decide), fun q => absurd q.symm (lg_lt_ne h)⟩
theorem lg_lN0 {a : Nat} (ha : a < 2 ^ 63) : lg_cmp (lN a) 0 = 0 ↔ a = 0 := by
  rw [lg_ne]
  exact pk_lEQ (b := 0) ha (by decide)
theorem wF_8 {V : Nat} (h : ¬ V / 2 ^ 32 = 0) : wFit V = 8 := by unfold wFit; rw [if_neg (by omega), if_neg (by omega), if_neg (by omega)]
theorem wF_4 {V : Nat} (h : V / 2 ^ 32 = 0) (h2 : ¬ V / 2 ^ 16 = 0) : wFit V = 4 := by unfold wFit; rw [if_neg (by omega), if_neg (by omega), if_pos (by omega)]
theorem wF_0 {V : Nat} (h : V < 253) : wFit V = 0 := if_pos h
theorem wF_2 {V : Nat} (h : V / 2 ^ 16 = 0) (h2 : ¬ V < 253) : wFit V = 2 := by unfold wFit; rw [if_neg h2, if_pos (by omega)]
theorem lg_ge (x y : Int64) : 0 ≤ lg_cmp x y ↔ ¬ x < y := by
  rw [← lg_lt0 x y]
  have e : ∀ z : Int32, 0 ≤ z ↔ ¬ z < 0 := fun z => by rw [Int32.le_iff_toInt_le, Int32.lt_iff_toInt_lt, Int32.toInt_zero]; omega
  exact e _
theorem wz_1 {V : Nat} (h : V < 2 ^ 63) (c : ¬ 0 ≤ lg_cmp (lN V) 253) : V < 253 := by
  rw [lg_ge] at c
  exact (z_lt (W := 253) h (by decide)).mp (Classical.not_not.mp c)
theorem wz_2 {V : Nat} (h : V < 2 ^ 63) (c : 0 ≤ lg_cmp (lN V) 253) : ¬ V < 253 := by
  rw [lg_ge] at c
  exact fun q => c ((z_lt (W := 253) h (by decide)).mpr q)
abbrev rm_Dsk_widthOfSize : Room := { frames := 0, cells := 0, slots := 0, locals := 0 }
set_option maxHeartbeats 4000000 in
set_option maxRecDepth 100000 in
theorem c_Dsk_widthOfSize (l : Launch) (g : JX) (V : Nat) (hV : V < 2 ^ 64) : j_Ct l y_Dsk_widthOfSize b_Dsk_widthOfSize 2 (some .int) rm_Dsk_widthOfSize g ([]) [.long (lN V)] (fun r w => r = some (.int (nI (wFit V))) ∧ w = []) 0 0 := by
  refine j_ct (by decide) (Nat.le_of_ble_eq_true rfl) (fun κ hkl C hR hI => ?_)
  show j_V g κ 0 0 0 [(0, .long (lN V))] [] ([])
  refine j_lload_n (pc := 0) C d_Dsk_widthOfSize_0 rfl 0 rfl ?_
  refine j_bipush (pc := 1) (v := nI 32) C d_Dsk_widthOfSize_1 (by decide) ?_
  refine j_lushr (pc := 3) (v := ((lN V).toUInt64 >>> ((nI 32).toInt64.toUInt64 &&& Int64.toUInt64 63)).toInt64) C d_Dsk_widthOfSize_3 rfl ?_
  refine j_rwl (y := lN (V / 2 ^ 32)) (wb_shr hV (by decide)) ?_
  refine j_lconst (pc := 4) (v := 0) C d_Dsk_widthOfSize_4 (by decide) ?_
  refine j_lcmp (pc := 5) C d_Dsk_widthOfSize_5 ?_
  refine j_if_eq (pc := 6) (tgt := 12) C d_Dsk_widthOfSize_6 rfl (fun c6 => ?_) (fun c6 => ?_)
  · skip
    have e6 : V / 2 ^ 32 = 0 := (lg_lN0 (by omega)).mp c6
    refine j_lload_n (pc := 12) C d_Dsk_widthOfSize_12 rfl 0 rfl ?_
    refine j_bipush (pc := 13) (v := nI 16) C d_Dsk_widthOfSize_13 (by decide) ?_
    refine j_lushr (pc := 15) (v := ((lN V).toUInt64 >>> ((nI 16).toInt64.toUInt64 &&& Int64.toUInt64 63)).toInt64) C d_Dsk_widthOfSize_15 rfl ?_
    refine j_rwl (y := lN (V / 2 ^ 16)) (wb_shr hV (by decide)) ?_
    refine j_lconst (pc := 16) (v := 0) C d_Dsk_widthOfSize_16 (by decide) ?_
    refine j_lcmp (pc := 17) C d_Dsk_widthOfSize_17 ?_
    refine j_if_eq (pc := 18) (tgt := 23) C d_Dsk_widthOfSize_18 rfl (fun c18 => ?_) (fun c18 => ?_)
    · skip
      have e18 : V / 2 ^ 16 = 0 := (lg_lN0 (by omega)).mp c18
      refine j_lload_n (pc := 23) C d_Dsk_widthOfSize_23 rfl 0 rfl ?_
      refine j_ldc2 (pc := 24) C k_Dsk_181 d_Dsk_widthOfSize_24 ?_
      refine j_lcmp (pc := 27) C d_Dsk_widthOfSize_27 ?_
      refine j_if_ge (pc := 28) (tgt := 35) C d_Dsk_widthOfSize_28 rfl (fun c28 => ?_) (fun c28 => ?_)
      · skip
        refine j_iconst (pc := 35) (v := nI 2) C d_Dsk_widthOfSize_35 (by decide) ?_
        exact hR.1 _ _ _ _ d_Dsk_widthOfSize_36 ⟨_, rfl, by first | rfl | decide⟩ (⟨by first | rw [wF_8 e6] | rw [wF_4 e6 e18] | rw [wF_0 (wz_1 (by omega) c28)] | rw [wF_2 e18 (wz_2 (by omega) c28)], rfl⟩)
      · skip
        refine j_iconst (pc := 31) (v := nI 0) C d_Dsk_widthOfSize_31 (by decide) ?_
        refine j_goto (pc := 32) (tgt := 36) C d_Dsk_widthOfSize_32 rfl ?_
        exact hR.1 _ _ _ _ d_Dsk_widthOfSize_36 ⟨_, rfl, by first | rfl | decide⟩ (⟨by first | rw [wF_8 e6] | rw [wF_4 e6 e18] | rw [wF_0 (wz_1 (by omega) c28)] | rw [wF_2 e18 (wz_2 (by omega) c28)], rfl⟩)
    · skip
      have e18 : ¬ V / 2 ^ 16 = 0 := fun q => c18 ((lg_lN0 (by omega)).mpr q)
      refine j_iconst (pc := 21) (v := nI 4) C d_Dsk_widthOfSize_21 (by decide) ?_
      exact hR.1 _ _ _ _ d_Dsk_widthOfSize_22 ⟨_, rfl, by first | rfl | decide⟩ (⟨by first | rw [wF_8 e6] | rw [wF_4 e6 e18] | rw [wF_0 (wz_1 (by omega) c28)] | rw [wF_2 e18 (wz_2 (by omega) c28)], rfl⟩)
  · skip
    have e6 : ¬ V / 2 ^ 32 = 0 := fun q => c6 ((lg_lN0 (by omega)).mpr q)
    refine j_bipush (pc := 9) (v := nI 8) C d_Dsk_widthOfSize_9 (by decide) ?_
    exact hR.1 _ _ _ _ d_Dsk_widthOfSize_11 ⟨_, rfl, by first | rfl | decide⟩ (⟨by first | rw [wF_8 e6] | rw [wF_4 e6 e18] | rw [wF_0 (wz_1 (by omega) c28)] | rw [wF_2 e18 (wz_2 (by omega) c28)], rfl⟩)
abbrev rm_Dsk_markOfWidth : Room := { frames := 0, cells := 0, slots := 0, locals := 0 }
set_option maxHeartbeats 4000000 in
set_option maxRecDepth 100000 in
theorem c_Dsk_markOfWidth (l : Launch) (g : JX) (w0 : Nat) (hw : w0 = 2 ∨ w0 = 4 ∨ w0 = 8) : j_Ct l y_Dsk_markOfWidth b_Dsk_markOfWidth 1 (some .int) rm_Dsk_markOfWidth g ([]) [.int (nI w0)] (fun r w => r = some (.int (nI (if w0 = 8 then 255 else if w0 = 4 then 254 else 253))) ∧ w = []) 0 0 := by
  refine j_ct (by decide) (Nat.le_of_ble_eq_true rfl) (fun κ hkl C hR hI => ?_)
  show j_V g κ 0 0 0 [(0, .int (nI w0))] [] ([])
  refine j_iload_n (pc := 0) C d_Dsk_markOfWidth_0 rfl 0 rfl ?_
  refine j_bipush (pc := 1) (v := nI 8) C d_Dsk_markOfWidth_1 (by decide) ?_
  refine j_icmp_neN (pc := 3) (tgt := 10) C (by omega) (by omega) d_Dsk_markOfWidth_3 rfl (fun c3 => ?_) (fun c3 => ?_)
  · skip
    refine j_iload_n (pc := 10) C d_Dsk_markOfWidth_10 rfl 0 rfl ?_
    refine j_iconst (pc := 11) (v := nI 4) C d_Dsk_markOfWidth_11 (by decide) ?_
    refine j_icmp_neN (pc := 12) (tgt := 21) C (by omega) (by omega) d_Dsk_markOfWidth_12 rfl (fun c12 => ?_) (fun c12 => ?_)
    · skip
      refine j_sipush (pc := 21) (v := nI 253) C d_Dsk_markOfWidth_21 (by decide) ?_
      exact hR.1 _ _ _ _ d_Dsk_markOfWidth_24 ⟨_, rfl, by first | rfl | decide⟩ (⟨by first | rw [if_pos (by omega)] | rw [if_neg (by omega), if_pos (by omega)] | rw [if_neg (by omega), if_neg (by omega)], rfl⟩)
    · skip
      refine j_sipush (pc := 15) (v := nI 254) C d_Dsk_markOfWidth_15 (by decide) ?_
      refine j_goto (pc := 18) (tgt := 24) C d_Dsk_markOfWidth_18 rfl ?_
      exact hR.1 _ _ _ _ d_Dsk_markOfWidth_24 ⟨_, rfl, by first | rfl | decide⟩ (⟨by first | rw [if_pos (by omega)] | rw [if_neg (by omega), if_pos (by omega)] | rw [if_neg (by omega), if_neg (by omega)], rfl⟩)
  · skip
    refine j_sipush (pc := 6) (v := nI 255) C d_Dsk_markOfWidth_6 (by decide) ?_
    exact hR.1 _ _ _ _ d_Dsk_markOfWidth_9 ⟨_, rfl, by first | rfl | decide⟩ (⟨by first | rw [if_pos (by omega)] | rw [if_neg (by omega), if_pos (by omega)] | rw [if_neg (by omega), if_neg (by omega)], rfl⟩)
abbrev rm_Rea_fail : Room := { frames := 0, cells := 0, slots := 0, locals := 0 }
set_option maxHeartbeats 4000000 in
set_option maxRecDepth 100000 in
theorem c_Rea_fail (l : Launch) (g : JX) (r0 th : Nat) (nx pl a b : Int32)  : j_Ct l y_Rea_fail b_Rea_fail 3 none rm_Rea_fail g ([(r0, .inr (2, [.ref th, .int nx, .int (nI 0), .int pl]))]) [.ref r0, .int a, .int b] (fun r w => r = none ∧ w = [(r0, .inr (2, [.ref th, .int nx, .int a, .int b]))]) 0 0 := by
  refine j_ct (by decide) (Nat.le_of_ble_eq_true rfl) (fun κ hkl C hR hI => ?_)
  show j_V g κ 0 0 0 [(0, .ref r0), (1, .int a), (2, .int b)] [] ([(r0, .inr (2, [.ref th, .int nx, .int (nI 0), .int pl]))])
  refine j_aload_n (pc := 0) C d_Rea_fail_0 rfl 0 rfl ?_
  refine j_get (pc := 1) C F_Rea_22 0 rfl rfl d_Rea_fail_1 ?_
  refine j_if_neN (pc := 4) (tgt := 17) C (by omega) d_Rea_fail_4 rfl (fun c4 => ?_) (fun c4 => ?_)
  · exfalso; omega
  · skip
    refine j_aload_n (pc := 7) C d_Rea_fail_7 rfl 0 rfl ?_
    refine j_iload_n (pc := 8) C d_Rea_fail_8 rfl 1 rfl ?_
    refine j_put (pc := 9) (ws' := [(r0, .inr (2, [.ref th, .int nx, .int a, .int pl]))]) C Fp_Rea_22 0 rfl rfl (by first | rfl | decide) (Nat.le_of_ble_eq_true rfl) rfl d_Rea_fail_9 ?_
    refine j_aload_n (pc := 12) C d_Rea_fail_12 rfl 0 rfl ?_
    refine j_iload_n (pc := 13) C d_Rea_fail_13 rfl 2 rfl ?_
    refine j_put (pc := 14) (ws' := [(r0, .inr (2, [.ref th, .int nx, .int a, .int b]))]) C Fp_Rea_25 0 rfl rfl (by first | rfl | decide) (Nat.le_of_ble_eq_true rfl) rfl d_Rea_fail_14 ?_
    exact hR.2.2 _ _ _ d_Rea_fail_17 rfl (⟨rfl, rfl⟩)
set_option maxHeartbeats 4000000 in
set_option maxRecDepth 100000 in
theorem c_Rea_fail2 (l : Launch) (g : JX) (r0 th f : Nat) (nx pl a b : Int32) (hf : 0 < f) (hf2 : f < 5) : j_Ct l y_Rea_fail b_Rea_fail 3 none rm_Rea_fail g ([(r0, .inr (2, [.ref th, .int nx, .int (nI f), .int pl]))]) [.ref r0, .int a, .int b] (fun r w => r = none ∧ w = [(r0, .inr (2, [.ref th, .int nx, .int (nI f), .int pl]))]) 0 0 := by
  refine j_ct (by decide) (Nat.le_of_ble_eq_true rfl) (fun κ hkl C hR hI => ?_)
  show j_V g κ 0 0 0 [(0, .ref r0), (1, .int a), (2, .int b)] [] ([(r0, .inr (2, [.ref th, .int nx, .int (nI f), .int pl]))])
  refine j_aload_n (pc := 0) C d_Rea_fail_0 rfl 0 rfl ?_
  refine j_get (pc := 1) C F_Rea_22 0 rfl rfl d_Rea_fail_1 ?_
  refine j_if_neN (pc := 4) (tgt := 17) C (by omega) d_Rea_fail_4 rfl (fun c4 => ?_) (fun c4 => ?_)
  · skip
    exact hR.2.2 _ _ _ d_Rea_fail_17 rfl (⟨rfl, rfl⟩)
  · skip
    exfalso; omega
abbrev rm_Rea_skip : Room := { frames := 1, cells := 0, slots := 0, locals := 22 }
set_option maxHeartbeats 4000000 in
set_option maxRecDepth 100000 in
theorem c_Rea_skip_ok (l : Launch) (g : JX) (r0 th hb n p k1 : Nat) (pl : Int32) (hn : n ≤ 2000) (h : p + k1 ≤ n) : j_Ct l y_Rea_skip b_Rea_skip 2 none rm_Rea_skip g ([(r0, .inr (2, [.ref th, .int (nI p), .int (nI 0), .int pl])), (th, .inr (3, [.ref hb, .int (nI n)]))]) [.ref r0, .int (nI k1)] (fun r w => r = none ∧ w = [(r0, .inr (2, [.ref th, .int (nI (p + k1)), .int (nI 0), .int pl])), (th, .inr (3, [.ref hb, .int (nI n)]))]) 0 0 := by
  refine j_ct (by decide) (Nat.le_of_ble_eq_true rfl) (fun κ hkl C hR hI => ?_)
  show j_V g κ 0 0 0 [(0, .ref r0), (1, .int (nI k1))] [] ([(r0, .inr (2, [.ref th, .int (nI p), .int (nI 0), .int pl])), (th, .inr (3, [.ref hb, .int (nI n)]))])
  refine j_aload_n (pc := 0) C d_Rea_skip_0 rfl 0 rfl ?_
  refine j_get (pc := 1) C F_Rea_22 0 rfl rfl d_Rea_skip_1 ?_
  refine j_if_eqN (pc := 4) (tgt := 8) C (by omega) d_Rea_skip_4 rfl (fun c4 => ?_) (fun c4 => ?_)
  · skip
    refine j_iload_n (pc := 8) C d_Rea_skip_8 rfl 1 rfl ?_
    refine j_aload_n (pc := 9) C d_Rea_skip_9 rfl 0 rfl ?_
    refine j_get (pc := 10) C F_Rea_12 0 rfl rfl d_Rea_skip_10 ?_
    refine j_get (pc := 13) C F_Rea_28 1 rfl rfl d_Rea_skip_13 ?_
    refine j_aload_n (pc := 16) C d_Rea_skip_16 rfl 0 rfl ?_
    refine j_get (pc := 17) C F_Rea_18 0 rfl rfl d_Rea_skip_17 ?_
    refine j_isubN (pc := 20) C (by omega) d_Rea_skip_20 ?_
    refine j_icmp_leN (pc := 21) (tgt := 37) C (by omega) (by omega) d_Rea_skip_21 rfl (fun c21 => ?_) (fun c21 => ?_)
    · skip
      refine j_aload_n (pc := 37) C d_Rea_skip_37 rfl 0 rfl ?_
      refine j_dup (pc := 38) C d_Rea_skip_38 rfl ?_
      refine j_get (pc := 39) C F_Rea_18 0 rfl rfl d_Rea_skip_39 ?_
      refine j_iload_n (pc := 42) C d_Rea_skip_42 rfl 1 rfl ?_
      refine j_iaddN (pc := 43) C d_Rea_skip_43 ?_
      refine j_put (pc := 44) (ws' := [(r0, .inr (2, [.ref th, .int (nI (p + k1)), .int (nI 0), .int pl])), (th, .inr (3, [.ref hb, .int (nI n)]))]) C Fp_Rea_18 0 rfl rfl (by first | rfl | decide) (Nat.le_of_ble_eq_true rfl) rfl d_Rea_skip_44 ?_
      exact hR.2.2 _ _ _ d_Rea_skip_47 rfl (⟨rfl, rfl⟩)
    · skip
      exfalso; omega
  · exfalso; omega
set_option maxHeartbeats 4000000 in
set_option maxRecDepth 100000 in
theorem c_Rea_skip_no (l : Launch) (g : JX) (r0 th hb n p k1 : Nat) (pl : Int32) (hn : n ≤ 2000) (hp : p ≤ n) (hk1 : k1 < 2 ^ 31) (h : n < p + k1) : j_Ct l y_Rea_skip b_Rea_skip 2 none rm_Rea_skip g ([(r0, .inr (2, [.ref th, .int (nI p), .int (nI 0), .int pl])), (th, .inr (3, [.ref hb, .int (nI n)]))]) [.ref r0, .int (nI k1)] (fun r w => r = none ∧ w = [(r0, .inr (2, [.ref th, .int (nI p), .int (nI 1), .int (nI n)])), (th, .inr (3, [.ref hb, .int (nI n)]))]) 0 0 := by
  refine j_ct (by decide) (Nat.le_of_ble_eq_true rfl) (fun κ hkl C hR hI => ?_)
  show j_V g κ 0 0 0 [(0, .ref r0), (1, .int (nI k1))] [] ([(r0, .inr (2, [.ref th, .int (nI p), .int (nI 0), .int pl])), (th, .inr (3, [.ref hb, .int (nI n)]))])
  refine j_aload_n (pc := 0) C d_Rea_skip_0 rfl 0 rfl ?_
  refine j_get (pc := 1) C F_Rea_22 0 rfl rfl d_Rea_skip_1 ?_
  refine j_if_eqN (pc := 4) (tgt := 8) C (by omega) d_Rea_skip_4 rfl (fun c4 => ?_) (fun c4 => ?_)
  · skip
    refine j_iload_n (pc := 8) C d_Rea_skip_8 rfl 1 rfl ?_
    refine j_aload_n (pc := 9) C d_Rea_skip_9 rfl 0 rfl ?_
    refine j_get (pc := 10) C F_Rea_12 0 rfl rfl d_Rea_skip_10 ?_
    refine j_get (pc := 13) C F_Rea_28 1 rfl rfl d_Rea_skip_13 ?_
    refine j_aload_n (pc := 16) C d_Rea_skip_16 rfl 0 rfl ?_
    refine j_get (pc := 17) C F_Rea_18 0 rfl rfl d_Rea_skip_17 ?_
    refine j_isubN (pc := 20) C (by omega) d_Rea_skip_20 ?_
    refine j_icmp_leN (pc := 21) (tgt := 37) C (by omega) (by omega) d_Rea_skip_21 rfl (fun c21 => ?_) (fun c21 => ?_)
    · skip
      exfalso; omega
    · skip
      refine j_aload_n (pc := 24) C d_Rea_skip_24 rfl 0 rfl ?_
      refine j_iconst (pc := 25) (v := nI 1) C d_Rea_skip_25 (by decide) ?_
      refine j_aload_n (pc := 26) C d_Rea_skip_26 rfl 0 rfl ?_
      refine j_get (pc := 27) C F_Rea_12 0 rfl rfl d_Rea_skip_27 ?_
      refine j_get (pc := 30) C F_Rea_28 1 rfl rfl d_Rea_skip_30 ?_
      refine j_callV (pc := 33) (As := [.int (nI 1), .int (nI n)]) (rest := []) (wc := [(r0, .inr (2, [.ref th, .int (nI p), .int (nI 0), .int pl]))]) (wr := [(th, .inr (3, [.ref hb, .int (nI n)]))]) C (c_Rea_fail (kl κ) g r0 th (nI p) pl (nI 1) (nI n)) Y_Rea_fail ml_Rea_31 im_Rea_fail sl_Rea_fail rfl ⟨by decide, by decide⟩ rfl (ci := 2) (q0 := 0) rfl rfl rfl (Nat.le_of_ble_eq_true rfl) (j_sb [0, 1] rfl rfl) rfl d_Rea_skip_33 (fun r w1 hO => ?_)
      obtain ⟨rfl, rfl⟩ := hO
      show j_V g κ 0 0 36 [(0, .ref r0), (1, .int (nI k1))] [] ([(r0, .inr (2, [.ref th, .int (nI p), .int (nI 1), .int (nI n)])), (th, .inr (3, [.ref hb, .int (nI n)]))])
      exact hR.2.2 _ _ _ d_Rea_skip_36 rfl (⟨rfl, rfl⟩)
  · exfalso; omega
set_option maxHeartbeats 4000000 in
set_option maxRecDepth 100000 in
theorem c_Rea_skip_bad (l : Launch) (g : JX) (r0 th hb n f : Nat) (nx pl k1 : Int32) (hf : 0 < f) (hf2 : f < 5) : j_Ct l y_Rea_skip b_Rea_skip 2 none rm_Rea_skip g ([(r0, .inr (2, [.ref th, .int nx, .int (nI f), .int pl])), (th, .inr (3, [.ref hb, .int (nI n)]))]) [.ref r0, .int k1] (fun r w => r = none ∧ w = [(r0, .inr (2, [.ref th, .int nx, .int (nI f), .int pl])), (th, .inr (3, [.ref hb, .int (nI n)]))]) 0 0 := by
  refine j_ct (by decide) (Nat.le_of_ble_eq_true rfl) (fun κ hkl C hR hI => ?_)
  show j_V g κ 0 0 0 [(0, .ref r0), (1, .int k1)] [] ([(r0, .inr (2, [.ref th, .int nx, .int (nI f), .int pl])), (th, .inr (3, [.ref hb, .int (nI n)]))])
  refine j_aload_n (pc := 0) C d_Rea_skip_0 rfl 0 rfl ?_
  refine j_get (pc := 1) C F_Rea_22 0 rfl rfl d_Rea_skip_1 ?_
  refine j_if_eqN (pc := 4) (tgt := 8) C (by omega) d_Rea_skip_4 rfl (fun c4 => ?_) (fun c4 => ?_)
  · skip
    exfalso; omega
  · skip
    exact hR.2.2 _ _ _ d_Rea_skip_7 rfl (⟨rfl, rfl⟩)
set_option maxHeartbeats 4000000 in
set_option maxRecDepth 100000 in
/-- skip, whatever the reader's state -/
theorem c_Rea_skip (l : Launch) (g : JX) (r0 th hb n k1 : Nat) (s : RS) (q : Int32) (hn : n ≤ 2000) (hk1 : k1 < 2 ^ 31) (hs : ROk n s) : j_Ct l y_Rea_skip b_Rea_skip 2 none rm_Rea_skip g [(r0, .inr (2, [.ref th, .int (rN s q), .int (nI (rF s)), .int (rP s)])), (th, .inr (3, [.ref hb, .int (nI n)]))] [.ref r0, .int (nI k1)] (fun r w => ∃ q1 : Int32, r = none ∧ w = [(r0, .inr (2, [.ref th, .int (rN (rPass n k1 s) q1), .int (nI (rF (rPass n k1 s))), .int (rP (rPass n k1 s))])), (th, .inr (3, [.ref hb, .int (nI n)]))]) 0 0 := by
  rcases s with p | ⟨f, w⟩
  · by_cases h : p + k1 ≤ n
    · rw [rPass_ok h]
      exact (c_Rea_skip_ok l g r0 th hb n p k1 (-1) hn h).mono (fun r w h => ⟨0, h.1, h.2⟩)
    · rw [rPass_no (by omega)]
      exact (c_Rea_skip_no l g r0 th hb n p k1 (-1) hn hs hk1 (by omega)).mono (fun r w h => ⟨nI p, h.1, h.2⟩)
  · exact (c_Rea_skip_bad l g r0 th hb n f q (nI w) (nI k1) hs.1 hs.2.1).mono (fun r w h => ⟨q, h.1, h.2⟩)
set_option maxHeartbeats 4000000 in
set_option maxRecDepth 100000 in
theorem c_Txt_at_in (l : Launch) (g : JX) (h hb n p : Nat) (t : Nat → Nat) (hn : n ≤ 2000) (hT : ∀ j, t j < 256) (hp : p < n) : j_Ct l y_Txt_at b_Txt_at 2 (some .int) rm_Txt_at g [(h, .inr (3, [.ref hb, .int (nI n)])), (hb, .inl (aB g, 2000, .inl (bf t)))] [.ref h, .int (nI p)] (fun r w => r = some (.int (nI (t p))) ∧ w = [(h, .inr (3, [.ref hb, .int (nI n)])), (hb, .inl (aB g, 2000, .inl (bf t)))]) 0 0 := by
  refine (c_Txt_at l g h hb n t (nI p) hn hT).mono (fun r w q => ?_)
  rw [atI_in hp (by omega)] at q
  exact q
abbrev rm_Rea_takeSize : Room := { frames := 2, cells := 0, slots := 0, locals := 43 }
set_option maxHeartbeats 4000000 in
set_option maxRecDepth 100000 in
theorem c_Rea_takeSize (l : Launch) (g : JX) (r0 th hb n most : Nat) (t : Nat → Nat) (s : RS) (q : Int32) (hn : n ≤ 2000) (hm : most < 2 ^ 31) (hT : ∀ j, t j < 256) (hs : ROk n s) : j_Ct l y_Rea_takeSize b_Rea_takeSize 7 (some .int) rm_Rea_takeSize g ([(r0, .inr (2, [.ref th, .int (rN s q), .int (nI (rF s)), .int (rP s)])), (th, .inr (3, [.ref hb, .int (nI n)])), (hb, .inl (aB g, 2000, .inl (bf t)))]) [.ref r0, .int (nI most)] (fun r w => ∃ q1 : Int32, r = some (.int (nI (rSize t n most s).1)) ∧ w = [(r0, .inr (2, [.ref th, .int (rN ((rSize t n most s).2) q1), .int (nI (rF ((rSize t n most s).2))), .int (rP ((rSize t n most s).2))])), (th, .inr (3, [.ref hb, .int (nI n)])), (hb, .inl (aB g, 2000, .inl (bf t)))]) 0 0 := by
  refine j_ct (by decide) (Nat.le_of_ble_eq_true rfl) (fun κ hkl C hR hI => ?_)
  show j_V g κ 0 0 0 [(0, .ref r0), (1, .int (nI most))] [] ([(r0, .inr (2, [.ref th, .int (rN s q), .int (nI (rF s)), .int (rP s)])), (th, .inr (3, [.ref hb, .int (nI n)])), (hb, .inl (aB g, 2000, .inl (bf t)))])
  rcases s with p | ⟨f, w⟩
  · have hp : p ≤ n := hs
    show j_V g κ 0 0 0 [(0, .ref r0), (1, .int (nI most))] [] ([(r0, .inr (2, [.ref th, .int (nI p), .int (nI 0), .int (-1 : Int32)])), (th, .inr (3, [.ref hb, .int (nI n)])), (hb, .inl (aB g, 2000, .inl (bf t)))])
    refine j_aload_n (pc := 0) C d_Rea_takeSize_0 rfl 0 rfl ?_
    refine j_get (pc := 1) C F_Rea_18 0 rfl rfl d_Rea_takeSize_1 ?_
    refine j_istore_n (pc := 4) (lv' := [(2, .int (nI p)), (0, .ref r0), (1, .int (nI most))]) C d_Rea_takeSize_4 rfl (by decide) rfl ?_
    refine j_aload_n (pc := 5) C d_Rea_takeSize_5 rfl 1 rfl ?_
    refine j_iconst (pc := 6) (v := nI 1) C d_Rea_takeSize_6 (by decide) ?_
    by_cases h1 : p + 1 ≤ n
    · skip
      refine j_callV (pc := 7) (As := [.int (nI 1)]) (rest := []) (wc := [(r0, .inr (2, [.ref th, .int (nI p), .int (nI 0), .int (-1 : Int32)])), (th, .inr (3, [.ref hb, .int (nI n)]))]) (wr := [(hb, .inl (aB g, 2000, .inl (bf t)))]) C (c_Rea_skip_ok (kl κ) g r0 th hb n p 1 (-1 : Int32) (by omega) (by omega)) Y_Rea_skip ml_Rea_35 im_Rea_skip sl_Rea_skip rfl ⟨by decide, by decide⟩ rfl (ci := 2) (q0 := 0) rfl rfl rfl (Nat.le_of_ble_eq_true rfl) (j_sb [0, 1, 2] rfl rfl) rfl d_Rea_takeSize_7 (fun r w1 hO => ?_)
      obtain ⟨rfl, rfl⟩ := hO
      show j_V g κ 0 0 10 [(2, .int (nI p)), (0, .ref r0), (1, .int (nI most))] [] ([(r0, .inr (2, [.ref th, .int (nI (p + 1)), .int (nI 0), .int (-1 : Int32)])), (th, .inr (3, [.ref hb, .int (nI n)])), (hb, .inl (aB g, 2000, .inl (bf t)))])
      refine j_aload_n (pc := 10) C d_Rea_takeSize_10 rfl 1 rfl ?_
      refine j_get (pc := 11) C F_Rea_22 0 rfl rfl d_Rea_takeSize_11 ?_
      refine j_if_eqN (pc := 14) (tgt := 19) C (by omega) d_Rea_takeSize_14 rfl (fun c14 => ?_) (fun c14 => ?_)
      · skip
        refine j_aload_n (pc := 19) C d_Rea_takeSize_19 rfl 1 rfl ?_
        refine j_get (pc := 20) C F_Rea_12 0 rfl rfl d_Rea_takeSize_20 ?_
        refine j_iload_n (pc := 23) C d_Rea_takeSize_23 rfl 0 rfl ?_
        refine j_callV (pc := 24) (As := [.int (nI p)]) (rest := []) (wc := [(th, .inr (3, [.ref hb, .int (nI n)])), (hb, .inl (aB g, 2000, .inl (bf t)))]) (wr := [(r0, .inr (2, [.ref th, .int (nI (p + 1)), .int (nI 0), .int (-1 : Int32)]))]) C (c_Txt_at_in (kl κ) g th hb n p t (by omega) (hT) (by omega)) Y_Txt_at ml_Rea_87 im_Txt_at sl_Txt_at rfl ⟨by decide, by decide⟩ rfl (ci := 3) (q0 := 0) rfl rfl rfl (Nat.le_of_ble_eq_true rfl) (j_sb [1, 2, 0] rfl rfl) rfl d_Rea_takeSize_24 (fun r w1 hO => ?_)
        obtain ⟨rfl, rfl⟩ := hO
        show j_V g κ 0 0 27 [(2, .int (nI p)), (0, .ref r0), (1, .int (nI most))] [.int (nI (t p))] ([(th, .inr (3, [.ref hb, .int (nI n)])), (hb, .inl (aB g, 2000, .inl (bf t))), (r0, .inr (2, [.ref th, .int (nI (p + 1)), .int (nI 0), .int (-1 : Int32)]))])
        refine j_istore_n (pc := 27) (lv' := [(3, .int (nI (t p))), (2, .int (nI p)), (0, .ref r0), (1, .int (nI most))]) C d_Rea_takeSize_27 rfl (by decide) rfl ?_
        refine j_iload_n (pc := 28) C d_Rea_takeSize_28 rfl 0 rfl ?_
        refine j_callSN (pc := 29) (As := [.int (nI (t p))]) (rest := []) (wc := []) (wr := [(th, .inr (3, [.ref hb, .int (nI n)])), (hb, .inl (aB g, 2000, .inl (bf t))), (r0, .inr (2, [.ref th, .int (nI (p + 1)), .int (nI 0), .int (-1 : Int32)]))]) C (c_Dsk_widthOfMark (kl κ) g (t p) (by first | exact hT _ | omega)) Y_Dsk_widthOfMark ml_Rea_90 sta_Dsk_widthOfMark rfl ⟨by decide, by decide⟩ rfl (Nat.le_of_ble_eq_true rfl) (j_sb [0, 1, 2] rfl rfl) rfl d_Rea_takeSize_29 (fun r w1 hO => ?_)
        obtain ⟨rfl, rfl⟩ := hO
        show j_V g κ 0 0 32 [(3, .int (nI (t p))), (2, .int (nI p)), (0, .ref r0), (1, .int (nI most))] [.int (nI (wOf (t p)))] ([(th, .inr (3, [.ref hb, .int (nI n)])), (hb, .inl (aB g, 2000, .inl (bf t))), (r0, .inr (2, [.ref th, .int (nI (p + 1)), .int (nI 0), .int (-1 : Int32)]))])
        refine j_istore (pc := 32) (lv' := [(4, .int (nI (wOf (t p)))), (3, .int (nI (t p))), (2, .int (nI p)), (0, .ref r0), (1, .int (nI most))]) C d_Rea_takeSize_32 (by decide) rfl ?_
        refine j_aload_n (pc := 34) C d_Rea_takeSize_34 rfl 3 rfl ?_
        refine j_iload (pc := 35) C d_Rea_takeSize_35 0 rfl ?_
        by_cases h2 : p + 1 + wOf (t p) ≤ n
        · skip
          refine j_callV (pc := 37) (As := [.int (nI (wOf (t p)))]) (rest := []) (wc := [(r0, .inr (2, [.ref th, .int (nI (p + 1)), .int (nI 0), .int (-1 : Int32)])), (th, .inr (3, [.ref hb, .int (nI n)]))]) (wr := [(hb, .inl (aB g, 2000, .inl (bf t)))]) C (c_Rea_skip_ok (kl κ) g r0 th hb n (p + 1) (wOf (t p)) (-1 : Int32) (by omega) (by omega)) Y_Rea_skip ml_Rea_35 im_Rea_skip sl_Rea_skip rfl ⟨by decide, by decide⟩ rfl (ci := 2) (q0 := 0) rfl rfl rfl (Nat.le_of_ble_eq_true rfl) (j_sb [2, 0, 1] rfl rfl) rfl d_Rea_takeSize_37 (fun r w1 hO => ?_)
          obtain ⟨rfl, rfl⟩ := hO
          show j_V g κ 0 0 40 [(4, .int (nI (wOf (t p)))), (3, .int (nI (t p))), (2, .int (nI p)), (0, .ref r0), (1, .int (nI most))] [] ([(r0, .inr (2, [.ref th, .int (nI ((p + 1) + (wOf (t p)))), .int (nI 0), .int (-1 : Int32)])), (th, .inr (3, [.ref hb, .int (nI n)])), (hb, .inl (aB g, 2000, .inl (bf t)))])
          refine j_aload_n (pc := 40) C d_Rea_takeSize_40 rfl 3 rfl ?_
          refine j_get (pc := 41) C F_Rea_22 0 rfl rfl d_Rea_takeSize_41 ?_
          refine j_if_eqN (pc := 44) (tgt := 49) C (by omega) d_Rea_takeSize_44 rfl (fun c44 => ?_) (fun c44 => ?_)
          · skip
            have hw2 := wOf_le (t p)
            refine j_iload (pc := 49) C d_Rea_takeSize_49 0 rfl ?_
            refine j_if_neN (pc := 51) (tgt := 59) C (by omega) d_Rea_takeSize_51 rfl (fun c51 => ?_) (fun c51 => ?_)
            · skip
              refine j_aload_n (pc := 59) C d_Rea_takeSize_59 rfl 3 rfl ?_
              refine j_get (pc := 60) C F_Rea_12 0 rfl rfl d_Rea_takeSize_60 ?_
              refine j_iload_n (pc := 63) C d_Rea_takeSize_63 rfl 2 rfl ?_
              refine j_iconst (pc := 64) (v := nI 1) C d_Rea_takeSize_64 (by decide) ?_
              refine j_iaddN (pc := 65) C d_Rea_takeSize_65 ?_
              refine j_iload (pc := 66) C d_Rea_takeSize_66 0 rfl ?_
              refine j_callV (pc := 68) (As := [.int (nI (p + 1)), .int (nI (wOf (t p)))]) (rest := []) (wc := [(th, .inr (3, [.ref hb, .int (nI n)])), (hb, .inl (aB g, 2000, .inl (bf t)))]) (wr := [(r0, .inr (2, [.ref th, .int (nI ((p + 1) + (wOf (t p)))), .int (nI 0), .int (-1 : Int32)]))]) C (c_Txt_lowFirst (kl κ) g th hb n (p + 1) (wOf (t p)) t (by omega) hT (by omega) (by omega)) Y_Txt_lowFirst ml_Rea_93 im_Txt_lowFirst sl_Txt_lowFirst rfl ⟨by decide, by decide⟩ rfl (ci := 3) (q0 := 0) rfl rfl rfl (Nat.le_of_ble_eq_true rfl) (j_sb [1, 2, 0] rfl rfl) rfl d_Rea_takeSize_68 (fun r w1 hO => ?_)
              obtain ⟨rfl, rfl⟩ := hO
              show j_V g κ 0 0 71 [(4, .int (nI (wOf (t p)))), (3, .int (nI (t p))), (2, .int (nI p)), (0, .ref r0), (1, .int (nI most))] [.long (lN (lf t (p + 1) (wOf (t p))))] ([(th, .inr (3, [.ref hb, .int (nI n)])), (hb, .inl (aB g, 2000, .inl (bf t))), (r0, .inr (2, [.ref th, .int (nI ((p + 1) + (wOf (t p)))), .int (nI 0), .int (-1 : Int32)]))])
              refine j_rwl (y := lN (szV t p)) (by unfold szV; first | rw [if_pos (by omega)] | rw [if_neg (by omega)]) ?_
              refine j_lstore (pc := 71) (lv' := [(5, .long (lN (szV t p))), (4, .int (nI (wOf (t p)))), (3, .int (nI (t p))), (2, .int (nI p)), (0, .ref r0), (1, .int (nI most))]) C d_Rea_takeSize_71 (by decide) rfl ?_
              have hw1 := wFit_le (szV t p)
              refine j_lload (pc := 73) C d_Rea_takeSize_73 0 rfl ?_
              refine j_callSN (pc := 75) (As := [.long (lN (szV t p))]) (rest := []) (wc := []) (wr := [(th, .inr (3, [.ref hb, .int (nI n)])), (hb, .inl (aB g, 2000, .inl (bf t))), (r0, .inr (2, [.ref th, .int (nI ((p + 1) + (wOf (t p)))), .int (nI 0), .int (-1 : Int32)]))]) C (c_Dsk_widthOfSize (kl κ) g (szV t p) (by first | exact szV_lt hT _ | omega)) Y_Dsk_widthOfSize ml_Rea_97 sta_Dsk_widthOfSize rfl ⟨by decide, by decide⟩ rfl (Nat.le_of_ble_eq_true rfl) (j_sb [0, 1, 2] rfl rfl) rfl d_Rea_takeSize_75 (fun r w1 hO => ?_)
              obtain ⟨rfl, rfl⟩ := hO
              show j_V g κ 0 0 78 [(5, .long (lN (szV t p))), (4, .int (nI (wOf (t p)))), (3, .int (nI (t p))), (2, .int (nI p)), (0, .ref r0), (1, .int (nI most))] [.int (nI (wFit (szV t p)))] ([(th, .inr (3, [.ref hb, .int (nI n)])), (hb, .inl (aB g, 2000, .inl (bf t))), (r0, .inr (2, [.ref th, .int (nI ((p + 1) + (wOf (t p)))), .int (nI 0), .int (-1 : Int32)]))])
              refine j_iload (pc := 78) C d_Rea_takeSize_78 1 rfl ?_
              refine j_icmp_geN (pc := 80) (tgt := 91) C (by omega) (by omega) d_Rea_takeSize_80 rfl (fun c80 => ?_) (fun c80 => ?_)
              · skip
                refine j_lload (pc := 91) C d_Rea_takeSize_91 0 rfl ?_
                refine j_lconst (pc := 93) (v := 0) C d_Rea_takeSize_93 (by decide) ?_
                refine j_lcmp (pc := 94) C d_Rea_takeSize_94 ?_
                refine j_if_lt (pc := 95) (tgt := 106) C d_Rea_takeSize_95 rfl (fun c95 => ?_) (fun c95 => ?_)
                · skip
                  have hv : most < szV t p := z_1 (szV_lt hT p) (by omega) c95
                  refine j_aload_n (pc := 106) C d_Rea_takeSize_106 rfl 4 rfl ?_
                  refine j_iconst (pc := 107) (v := nI 3) C d_Rea_takeSize_107 (by decide) ?_
                  refine j_iload_n (pc := 108) C d_Rea_takeSize_108 rfl 3 rfl ?_
                  refine j_callV (pc := 109) (As := [.int (nI 3), .int (nI p)]) (rest := []) (wc := [(r0, .inr (2, [.ref th, .int (nI ((p + 1) + (wOf (t p)))), .int (nI 0), .int (-1 : Int32)]))]) (wr := [(th, .inr (3, [.ref hb, .int (nI n)])), (hb, .inl (aB g, 2000, .inl (bf t)))]) C (c_Rea_fail (kl κ) g r0 th (nI ((p + 1) + (wOf (t p)))) (-1 : Int32) (nI 3) (nI p)) Y_Rea_fail ml_Rea_31 im_Rea_fail sl_Rea_fail rfl ⟨by decide, by decide⟩ rfl (ci := 2) (q0 := 0) rfl rfl rfl (Nat.le_of_ble_eq_true rfl) (j_sb [2, 0, 1] rfl rfl) rfl d_Rea_takeSize_109 (fun r w1 hO => ?_)
                  obtain ⟨rfl, rfl⟩ := hO
                  show j_V g κ 0 0 112 [(5, .long (lN (szV t p))), (4, .int (nI (wOf (t p)))), (3, .int (nI (t p))), (2, .int (nI p)), (0, .ref r0), (1, .int (nI most))] [] ([(r0, .inr (2, [.ref th, .int (nI ((p + 1) + (wOf (t p)))), .int (nI 3), .int (nI p)])), (th, .inr (3, [.ref hb, .int (nI n)])), (hb, .inl (aB g, 2000, .inl (bf t)))])
                  refine j_iconst (pc := 112) (v := nI 0) C d_Rea_takeSize_112 (by decide) ?_
                  exact hR.1 _ _ _ _ d_Rea_takeSize_113 ⟨_, rfl, rfl⟩ (by rw [rSize_3 h2 c80 hv]; exact ⟨_, rfl, rfl⟩)
                · skip
                  have hz := z_2 (szV_lt hT p) c95
                  refine j_lload (pc := 98) C d_Rea_takeSize_98 0 rfl ?_
                  refine j_iload_n (pc := 100) C d_Rea_takeSize_100 rfl 5 rfl ?_
                  refine j_i2l (pc := 101) (v := lN most) C d_Rea_takeSize_101 (nI_l (by omega)) ?_
                  refine j_lcmp (pc := 102) C d_Rea_takeSize_102 ?_
                  refine j_if_le (pc := 103) (tgt := 114) C d_Rea_takeSize_103 rfl (fun c103 => ?_) (fun c103 => ?_)
                  · skip
                    have hv : szV t p ≤ most := z_3 hz (by omega) c103
                    refine j_lload (pc := 114) C d_Rea_takeSize_114 0 rfl ?_
                    refine j_l2i (pc := 116) (v := nI (szV t p)) C d_Rea_takeSize_116 (lN_i _) ?_
                    refine j_sub (ws' := [(r0, .inr (2, [.ref th, .int (nI ((p + 1) + (wOf (t p)))), .int (nI 0), .int (-1 : Int32)])), (th, .inr (3, [.ref hb, .int (nI n)])), (hb, .inl (aB g, 2000, .inl (bf t)))]) (j_sb [2, 0, 1] rfl rfl) ?_
                    exact hR.1 _ _ _ _ d_Rea_takeSize_117 ⟨_, rfl, rfl⟩ (by rw [rSize_ok h2 c80 hv]; exact ⟨0, rfl, rfl⟩)
                  · skip
                    have hv : most < szV t p := z_4 hz (by omega) c103
                    refine j_aload_n (pc := 106) C d_Rea_takeSize_106 rfl 4 rfl ?_
                    refine j_iconst (pc := 107) (v := nI 3) C d_Rea_takeSize_107 (by decide) ?_
                    refine j_iload_n (pc := 108) C d_Rea_takeSize_108 rfl 3 rfl ?_
                    refine j_callV (pc := 109) (As := [.int (nI 3), .int (nI p)]) (rest := []) (wc := [(r0, .inr (2, [.ref th, .int (nI ((p + 1) + (wOf (t p)))), .int (nI 0), .int (-1 : Int32)]))]) (wr := [(th, .inr (3, [.ref hb, .int (nI n)])), (hb, .inl (aB g, 2000, .inl (bf t)))]) C (c_Rea_fail (kl κ) g r0 th (nI ((p + 1) + (wOf (t p)))) (-1 : Int32) (nI 3) (nI p)) Y_Rea_fail ml_Rea_31 im_Rea_fail sl_Rea_fail rfl ⟨by decide, by decide⟩ rfl (ci := 2) (q0 := 0) rfl rfl rfl (Nat.le_of_ble_eq_true rfl) (j_sb [2, 0, 1] rfl rfl) rfl d_Rea_takeSize_109 (fun r w1 hO => ?_)
                    obtain ⟨rfl, rfl⟩ := hO
                    show j_V g κ 0 0 112 [(5, .long (lN (szV t p))), (4, .int (nI (wOf (t p)))), (3, .int (nI (t p))), (2, .int (nI p)), (0, .ref r0), (1, .int (nI most))] [] ([(r0, .inr (2, [.ref th, .int (nI ((p + 1) + (wOf (t p)))), .int (nI 3), .int (nI p)])), (th, .inr (3, [.ref hb, .int (nI n)])), (hb, .inl (aB g, 2000, .inl (bf t)))])
                    refine j_iconst (pc := 112) (v := nI 0) C d_Rea_takeSize_112 (by decide) ?_
                    exact hR.1 _ _ _ _ d_Rea_takeSize_113 ⟨_, rfl, rfl⟩ (by rw [rSize_3 h2 c80 hv]; exact ⟨_, rfl, rfl⟩)
              · skip
                refine j_aload_n (pc := 83) C d_Rea_takeSize_83 rfl 4 rfl ?_
                refine j_iconst (pc := 84) (v := nI 2) C d_Rea_takeSize_84 (by decide) ?_
                refine j_iload_n (pc := 85) C d_Rea_takeSize_85 rfl 3 rfl ?_
                refine j_callV (pc := 86) (As := [.int (nI 2), .int (nI p)]) (rest := []) (wc := [(r0, .inr (2, [.ref th, .int (nI ((p + 1) + (wOf (t p)))), .int (nI 0), .int (-1 : Int32)]))]) (wr := [(th, .inr (3, [.ref hb, .int (nI n)])), (hb, .inl (aB g, 2000, .inl (bf t)))]) C (c_Rea_fail (kl κ) g r0 th (nI ((p + 1) + (wOf (t p)))) (-1 : Int32) (nI 2) (nI p)) Y_Rea_fail ml_Rea_31 im_Rea_fail sl_Rea_fail rfl ⟨by decide, by decide⟩ rfl (ci := 2) (q0 := 0) rfl rfl rfl (Nat.le_of_ble_eq_true rfl) (j_sb [2, 0, 1] rfl rfl) rfl d_Rea_takeSize_86 (fun r w1 hO => ?_)
                obtain ⟨rfl, rfl⟩ := hO
                show j_V g κ 0 0 89 [(5, .long (lN (szV t p))), (4, .int (nI (wOf (t p)))), (3, .int (nI (t p))), (2, .int (nI p)), (0, .ref r0), (1, .int (nI most))] [] ([(r0, .inr (2, [.ref th, .int (nI ((p + 1) + (wOf (t p)))), .int (nI 2), .int (nI p)])), (th, .inr (3, [.ref hb, .int (nI n)])), (hb, .inl (aB g, 2000, .inl (bf t)))])
                refine j_iconst (pc := 89) (v := nI 0) C d_Rea_takeSize_89 (by decide) ?_
                exact hR.1 _ _ _ _ d_Rea_takeSize_90 ⟨_, rfl, rfl⟩ (by rw [rSize_2 h2 c80]; exact ⟨_, rfl, rfl⟩)
            · skip
              refine j_iload_n (pc := 54) C d_Rea_takeSize_54 rfl 1 rfl ?_
              refine j_i2l (pc := 55) (v := lN (t p)) C d_Rea_takeSize_55 (nI_l (by have h9 := hT p; omega)) ?_
              refine j_goto (pc := 56) (tgt := 71) C d_Rea_takeSize_56 rfl ?_
              refine j_rwl (y := lN (szV t p)) (by unfold szV; first | rw [if_pos (by omega)] | rw [if_neg (by omega)]) ?_
              refine j_lstore (pc := 71) (lv' := [(5, .long (lN (szV t p))), (4, .int (nI (wOf (t p)))), (3, .int (nI (t p))), (2, .int (nI p)), (0, .ref r0), (1, .int (nI most))]) C d_Rea_takeSize_71 (by decide) rfl ?_
              have hw1 := wFit_le (szV t p)
              refine j_lload (pc := 73) C d_Rea_takeSize_73 0 rfl ?_
              refine j_callSN (pc := 75) (As := [.long (lN (szV t p))]) (rest := []) (wc := []) (wr := [(r0, .inr (2, [.ref th, .int (nI ((p + 1) + (wOf (t p)))), .int (nI 0), .int (-1 : Int32)])), (th, .inr (3, [.ref hb, .int (nI n)])), (hb, .inl (aB g, 2000, .inl (bf t)))]) C (c_Dsk_widthOfSize (kl κ) g (szV t p) (by first | exact szV_lt hT _ | omega)) Y_Dsk_widthOfSize ml_Rea_97 sta_Dsk_widthOfSize rfl ⟨by decide, by decide⟩ rfl (Nat.le_of_ble_eq_true rfl) (j_sb [0, 1, 2] rfl rfl) rfl d_Rea_takeSize_75 (fun r w1 hO => ?_)
              obtain ⟨rfl, rfl⟩ := hO
              show j_V g κ 0 0 78 [(5, .long (lN (szV t p))), (4, .int (nI (wOf (t p)))), (3, .int (nI (t p))), (2, .int (nI p)), (0, .ref r0), (1, .int (nI most))] [.int (nI (wFit (szV t p)))] ([(r0, .inr (2, [.ref th, .int (nI ((p + 1) + (wOf (t p)))), .int (nI 0), .int (-1 : Int32)])), (th, .inr (3, [.ref hb, .int (nI n)])), (hb, .inl (aB g, 2000, .inl (bf t)))])
              refine j_iload (pc := 78) C d_Rea_takeSize_78 1 rfl ?_
              refine j_icmp_geN (pc := 80) (tgt := 91) C (by omega) (by omega) d_Rea_takeSize_80 rfl (fun c80 => ?_) (fun c80 => ?_)
              · skip
                refine j_lload (pc := 91) C d_Rea_takeSize_91 0 rfl ?_
                refine j_lconst (pc := 93) (v := 0) C d_Rea_takeSize_93 (by decide) ?_
                refine j_lcmp (pc := 94) C d_Rea_takeSize_94 ?_
                refine j_if_lt (pc := 95) (tgt := 106) C d_Rea_takeSize_95 rfl (fun c95 => ?_) (fun c95 => ?_)
                · skip
                  have hv : most < szV t p := z_1 (szV_lt hT p) (by omega) c95
                  refine j_aload_n (pc := 106) C d_Rea_takeSize_106 rfl 4 rfl ?_
                  refine j_iconst (pc := 107) (v := nI 3) C d_Rea_takeSize_107 (by decide) ?_
                  refine j_iload_n (pc := 108) C d_Rea_takeSize_108 rfl 3 rfl ?_
                  refine j_callV (pc := 109) (As := [.int (nI 3), .int (nI p)]) (rest := []) (wc := [(r0, .inr (2, [.ref th, .int (nI ((p + 1) + (wOf (t p)))), .int (nI 0), .int (-1 : Int32)]))]) (wr := [(th, .inr (3, [.ref hb, .int (nI n)])), (hb, .inl (aB g, 2000, .inl (bf t)))]) C (c_Rea_fail (kl κ) g r0 th (nI ((p + 1) + (wOf (t p)))) (-1 : Int32) (nI 3) (nI p)) Y_Rea_fail ml_Rea_31 im_Rea_fail sl_Rea_fail rfl ⟨by decide, by decide⟩ rfl (ci := 2) (q0 := 0) rfl rfl rfl (Nat.le_of_ble_eq_true rfl) (j_sb [0, 1, 2] rfl rfl) rfl d_Rea_takeSize_109 (fun r w1 hO => ?_)
                  obtain ⟨rfl, rfl⟩ := hO
                  show j_V g κ 0 0 112 [(5, .long (lN (szV t p))), (4, .int (nI (wOf (t p)))), (3, .int (nI (t p))), (2, .int (nI p)), (0, .ref r0), (1, .int (nI most))] [] ([(r0, .inr (2, [.ref th, .int (nI ((p + 1) + (wOf (t p)))), .int (nI 3), .int (nI p)])), (th, .inr (3, [.ref hb, .int (nI n)])), (hb, .inl (aB g, 2000, .inl (bf t)))])
                  refine j_iconst (pc := 112) (v := nI 0) C d_Rea_takeSize_112 (by decide) ?_
                  exact hR.1 _ _ _ _ d_Rea_takeSize_113 ⟨_, rfl, rfl⟩ (by rw [rSize_3 h2 c80 hv]; exact ⟨_, rfl, rfl⟩)
                · skip
                  have hz := z_2 (szV_lt hT p) c95
                  refine j_lload (pc := 98) C d_Rea_takeSize_98 0 rfl ?_
                  refine j_iload_n (pc := 100) C d_Rea_takeSize_100 rfl 5 rfl ?_
                  refine j_i2l (pc := 101) (v := lN most) C d_Rea_takeSize_101 (nI_l (by omega)) ?_
                  refine j_lcmp (pc := 102) C d_Rea_takeSize_102 ?_
                  refine j_if_le (pc := 103) (tgt := 114) C d_Rea_takeSize_103 rfl (fun c103 => ?_) (fun c103 => ?_)
                  · skip
                    have hv : szV t p ≤ most := z_3 hz (by omega) c103
                    refine j_lload (pc := 114) C d_Rea_takeSize_114 0 rfl ?_
                    refine j_l2i (pc := 116) (v := nI (szV t p)) C d_Rea_takeSize_116 (lN_i _) ?_
                    exact hR.1 _ _ _ _ d_Rea_takeSize_117 ⟨_, rfl, rfl⟩ (by rw [rSize_ok h2 c80 hv]; exact ⟨0, rfl, rfl⟩)
                  · skip
                    have hv : most < szV t p := z_4 hz (by omega) c103
                    refine j_aload_n (pc := 106) C d_Rea_takeSize_106 rfl 4 rfl ?_
                    refine j_iconst (pc := 107) (v := nI 3) C d_Rea_takeSize_107 (by decide) ?_
                    refine j_iload_n (pc := 108) C d_Rea_takeSize_108 rfl 3 rfl ?_
                    refine j_callV (pc := 109) (As := [.int (nI 3), .int (nI p)]) (rest := []) (wc := [(r0, .inr (2, [.ref th, .int (nI ((p + 1) + (wOf (t p)))), .int (nI 0), .int (-1 : Int32)]))]) (wr := [(th, .inr (3, [.ref hb, .int (nI n)])), (hb, .inl (aB g, 2000, .inl (bf t)))]) C (c_Rea_fail (kl κ) g r0 th (nI ((p + 1) + (wOf (t p)))) (-1 : Int32) (nI 3) (nI p)) Y_Rea_fail ml_Rea_31 im_Rea_fail sl_Rea_fail rfl ⟨by decide, by decide⟩ rfl (ci := 2) (q0 := 0) rfl rfl rfl (Nat.le_of_ble_eq_true rfl) (j_sb [0, 1, 2] rfl rfl) rfl d_Rea_takeSize_109 (fun r w1 hO => ?_)
                    obtain ⟨rfl, rfl⟩ := hO
                    show j_V g κ 0 0 112 [(5, .long (lN (szV t p))), (4, .int (nI (wOf (t p)))), (3, .int (nI (t p))), (2, .int (nI p)), (0, .ref r0), (1, .int (nI most))] [] ([(r0, .inr (2, [.ref th, .int (nI ((p + 1) + (wOf (t p)))), .int (nI 3), .int (nI p)])), (th, .inr (3, [.ref hb, .int (nI n)])), (hb, .inl (aB g, 2000, .inl (bf t)))])
                    refine j_iconst (pc := 112) (v := nI 0) C d_Rea_takeSize_112 (by decide) ?_
                    exact hR.1 _ _ _ _ d_Rea_takeSize_113 ⟨_, rfl, rfl⟩ (by rw [rSize_3 h2 c80 hv]; exact ⟨_, rfl, rfl⟩)
              · skip
                refine j_aload_n (pc := 83) C d_Rea_takeSize_83 rfl 4 rfl ?_
                refine j_iconst (pc := 84) (v := nI 2) C d_Rea_takeSize_84 (by decide) ?_
                refine j_iload_n (pc := 85) C d_Rea_takeSize_85 rfl 3 rfl ?_
                refine j_callV (pc := 86) (As := [.int (nI 2), .int (nI p)]) (rest := []) (wc := [(r0, .inr (2, [.ref th, .int (nI ((p + 1) + (wOf (t p)))), .int (nI 0), .int (-1 : Int32)]))]) (wr := [(th, .inr (3, [.ref hb, .int (nI n)])), (hb, .inl (aB g, 2000, .inl (bf t)))]) C (c_Rea_fail (kl κ) g r0 th (nI ((p + 1) + (wOf (t p)))) (-1 : Int32) (nI 2) (nI p)) Y_Rea_fail ml_Rea_31 im_Rea_fail sl_Rea_fail rfl ⟨by decide, by decide⟩ rfl (ci := 2) (q0 := 0) rfl rfl rfl (Nat.le_of_ble_eq_true rfl) (j_sb [0, 1, 2] rfl rfl) rfl d_Rea_takeSize_86 (fun r w1 hO => ?_)
                obtain ⟨rfl, rfl⟩ := hO
                show j_V g κ 0 0 89 [(5, .long (lN (szV t p))), (4, .int (nI (wOf (t p)))), (3, .int (nI (t p))), (2, .int (nI p)), (0, .ref r0), (1, .int (nI most))] [] ([(r0, .inr (2, [.ref th, .int (nI ((p + 1) + (wOf (t p)))), .int (nI 2), .int (nI p)])), (th, .inr (3, [.ref hb, .int (nI n)])), (hb, .inl (aB g, 2000, .inl (bf t)))])
                refine j_iconst (pc := 89) (v := nI 0) C d_Rea_takeSize_89 (by decide) ?_
                exact hR.1 _ _ _ _ d_Rea_takeSize_90 ⟨_, rfl, rfl⟩ (by rw [rSize_2 h2 c80]; exact ⟨_, rfl, rfl⟩)
          · exfalso; omega
        · skip
          have hw2 := wOf_le (t p)
          refine j_callV (pc := 37) (As := [.int (nI (wOf (t p)))]) (rest := []) (wc := [(r0, .inr (2, [.ref th, .int (nI (p + 1)), .int (nI 0), .int (-1 : Int32)])), (th, .inr (3, [.ref hb, .int (nI n)]))]) (wr := [(hb, .inl (aB g, 2000, .inl (bf t)))]) C (c_Rea_skip_no (kl κ) g r0 th hb n (p + 1) (wOf (t p)) (-1 : Int32) (by omega) (by omega) (by omega) (by omega)) Y_Rea_skip ml_Rea_35 im_Rea_skip sl_Rea_skip rfl ⟨by decide, by decide⟩ rfl (ci := 2) (q0 := 0) rfl rfl rfl (Nat.le_of_ble_eq_true rfl) (j_sb [2, 0, 1] rfl rfl) rfl d_Rea_takeSize_37 (fun r w1 hO => ?_)
          obtain ⟨rfl, rfl⟩ := hO
          show j_V g κ 0 0 40 [(4, .int (nI (wOf (t p)))), (3, .int (nI (t p))), (2, .int (nI p)), (0, .ref r0), (1, .int (nI most))] [] ([(r0, .inr (2, [.ref th, .int (nI (p + 1)), .int (nI 1), .int (nI n)])), (th, .inr (3, [.ref hb, .int (nI n)])), (hb, .inl (aB g, 2000, .inl (bf t)))])
          refine j_aload_n (pc := 40) C d_Rea_takeSize_40 rfl 3 rfl ?_
          refine j_get (pc := 41) C F_Rea_22 0 rfl rfl d_Rea_takeSize_41 ?_
          refine j_if_eqN (pc := 44) (tgt := 49) C (by omega) d_Rea_takeSize_44 rfl (fun c44 => ?_) (fun c44 => ?_)
          · exfalso; omega
          · skip
            refine j_iconst (pc := 47) (v := nI 0) C d_Rea_takeSize_47 (by decide) ?_
            exact hR.1 _ _ _ _ d_Rea_takeSize_48 ⟨_, rfl, rfl⟩ (by rw [rSize_1 (Or.inl (by omega))]; exact ⟨_, rfl, rfl⟩)
      · exfalso; omega
    · skip
      refine j_callV (pc := 7) (As := [.int (nI 1)]) (rest := []) (wc := [(r0, .inr (2, [.ref th, .int (nI p), .int (nI 0), .int (-1 : Int32)])), (th, .inr (3, [.ref hb, .int (nI n)]))]) (wr := [(hb, .inl (aB g, 2000, .inl (bf t)))]) C (c_Rea_skip_no (kl κ) g r0 th hb n p 1 (-1 : Int32) (by omega) (by omega) (by omega) (by omega)) Y_Rea_skip ml_Rea_35 im_Rea_skip sl_Rea_skip rfl ⟨by decide, by decide⟩ rfl (ci := 2) (q0 := 0) rfl rfl rfl (Nat.le_of_ble_eq_true rfl) (j_sb [0, 1, 2] rfl rfl) rfl d_Rea_takeSize_7 (fun r w1 hO => ?_)
      obtain ⟨rfl, rfl⟩ := hO
      show j_V g κ 0 0 10 [(2, .int (nI p)), (0, .ref r0), (1, .int (nI most))] [] ([(r0, .inr (2, [.ref th, .int (nI p), .int (nI 1), .int (nI n)])), (th, .inr (3, [.ref hb, .int (nI n)])), (hb, .inl (aB g, 2000, .inl (bf t)))])
      refine j_aload_n (pc := 10) C d_Rea_takeSize_10 rfl 1 rfl ?_
      refine j_get (pc := 11) C F_Rea_22 0 rfl rfl d_Rea_takeSize_11 ?_
      refine j_if_eqN (pc := 14) (tgt := 19) C (by omega) d_Rea_takeSize_14 rfl (fun c14 => ?_) (fun c14 => ?_)
      · exfalso; omega
      · skip
        refine j_iconst (pc := 17) (v := nI 0) C d_Rea_takeSize_17 (by decide) ?_
        exact hR.1 _ _ _ _ d_Rea_takeSize_18 ⟨_, rfl, rfl⟩ (by rw [rSize_1 (Or.inr (by omega))]; exact ⟨_, rfl, rfl⟩)
  · obtain ⟨hf, hf2, hw⟩ : 0 < f ∧ f < 5 ∧ w ≤ n := hs
    show j_V g κ 0 0 0 [(0, .ref r0), (1, .int (nI most))] [] ([(r0, .inr (2, [.ref th, .int q, .int (nI f), .int (nI w)])), (th, .inr (3, [.ref hb, .int (nI n)])), (hb, .inl (aB g, 2000, .inl (bf t)))])
    refine j_aload_n (pc := 0) C d_Rea_takeSize_0 rfl 0 rfl ?_
    refine j_get (pc := 1) C F_Rea_18 0 rfl rfl d_Rea_takeSize_1 ?_
    refine j_istore_n (pc := 4) (lv' := [(2, .int q), (0, .ref r0), (1, .int (nI most))]) C d_Rea_takeSize_4 rfl (by decide) rfl ?_
    refine j_aload_n (pc := 5) C d_Rea_takeSize_5 rfl 1 rfl ?_
    refine j_iconst (pc := 6) (v := nI 1) C d_Rea_takeSize_6 (by decide) ?_
    refine j_callV (pc := 7) (As := [.int (nI 1)]) (rest := []) (wc := [(r0, .inr (2, [.ref th, .int q, .int (nI f), .int (nI w)])), (th, .inr (3, [.ref hb, .int (nI n)]))]) (wr := [(hb, .inl (aB g, 2000, .inl (bf t)))]) C (c_Rea_skip_bad (kl κ) g r0 th hb n f q (nI w) (nI 1) (by omega) (by omega)) Y_Rea_skip ml_Rea_35 im_Rea_skip sl_Rea_skip rfl ⟨by decide, by decide⟩ rfl (ci := 2) (q0 := 0) rfl rfl rfl (Nat.le_of_ble_eq_true rfl) (j_sb [0, 1, 2] rfl rfl) rfl d_Rea_takeSize_7 (fun r w1 hO => ?_)
    obtain ⟨rfl, rfl⟩ := hO
    show j_V g κ 0 0 10 [(2, .int q), (0, .ref r0), (1, .int (nI most))] [] ([(r0, .inr (2, [.ref th, .int q, .int (nI f), .int (nI w)])), (th, .inr (3, [.ref hb, .int (nI n)])), (hb, .inl (aB g, 2000, .inl (bf t)))])
    refine j_aload_n (pc := 10) C d_Rea_takeSize_10 rfl 1 rfl ?_
    refine j_get (pc := 11) C F_Rea_22 0 rfl rfl d_Rea_takeSize_11 ?_
    refine j_if_eqN (pc := 14) (tgt := 19) C (by omega) d_Rea_takeSize_14 rfl (fun c14 => ?_) (fun c14 => ?_)
    · exfalso; omega
    · skip
      refine j_iconst (pc := 17) (v := nI 0) C d_Rea_takeSize_17 (by decide) ?_
      exact hR.1 _ _ _ _ d_Rea_takeSize_18 ⟨_, rfl, rfl⟩ (⟨_, rfl, rfl⟩)
