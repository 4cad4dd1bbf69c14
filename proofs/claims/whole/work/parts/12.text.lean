abbrev rm_Txt_clear : Room := { frames := 0, cells := 0, slots := 0, locals := 0 }
set_option maxHeartbeats 4000000 in
set_option maxRecDepth 100000 in
theorem c_Txt_clear (l : Launch) (g : JX) (h hb : Nat) (x : Int32)  : j_Ct l y_Txt_clear b_Txt_clear 1 none rm_Txt_clear g ([(h, .inr (3, [.ref hb, .int x]))]) [.ref h] (fun r w => r = none ∧ w = [(h, .inr (3, [.ref hb, .int (nI 0)]))]) 0 0 := by
  refine j_ct (by decide) (Nat.le_of_ble_eq_true rfl) (fun κ hkl C hR hI => ?_)
  show j_V g κ 0 0 0 [(0, .ref h)] [] ([(h, .inr (3, [.ref hb, .int x]))])
  refine j_aload_n (pc := 0) C d_Txt_clear_0 rfl 0 rfl ?_
  refine j_iconst (pc := 1) (v := nI 0) C d_Txt_clear_1 (by decide) ?_
  refine j_put (pc := 2) (ws' := [(h, .inr (3, [.ref hb, .int (nI 0)]))]) C Fp_Txt_15 0 rfl rfl (by first | rfl | decide) (Nat.le_of_ble_eq_true rfl) rfl d_Txt_clear_2 ?_
  exact hR.2.2 _ _ _ d_Txt_clear_5 rfl (⟨rfl, rfl⟩)
abbrev rm_Txt_copy : Room := { frames := 0, cells := 0, slots := 0, locals := 0 }
set_option maxHeartbeats 4000000 in
set_option maxRecDepth 100000 in
theorem lp_Txt_copy {g : JX} {κ : JK} {h hb k0 kb n : Nat} {t t0 : Nat → Nat} {x : Int32} (hn : n ≤ 2000) (C : j_C g κ b_Txt_copy R_Txt rm_Txt_copy 3) (hR : j_R g κ b_Txt_copy none (fun r w => r = none ∧ w = [(h, .inr (3, [.ref hb, .int (nI n)])), (hb, .inl (aB g, 2000, .inl (bf (cpT t t0 n)))), (k0, .inr (3, [.ref kb, .int (nI n)])), (kb, .inl (aB g, 2000, .inl (bf t)))]) 0 0) : ∀ (k : Nat) (i : Nat), i ≤ n → n + 1 ≤ i + k → j_V g κ (0) (0) 2 [(0, .ref h), (1, .ref k0), (2, .int (nI i))] [] ([(h, .inr (3, [.ref hb, .int x])), (hb, .inl (aB g, 2000, .inl (bf (cpT t t0 i)))), (k0, .inr (3, [.ref kb, .int (nI n)])), (kb, .inl (aB g, 2000, .inl (bf t)))]) := by
  intro k
  induction k with
  | zero =>
    intro i hi hk
    exfalso; omega
  | succ k ih =>
    intro i hi hk
    refine j_iload_n (pc := 2) C d_Txt_copy_2 rfl 2 rfl ?_
    refine j_aload_n (pc := 3) C d_Txt_copy_3 rfl 1 rfl ?_
    refine j_get (pc := 4) C F_Txt_15 2 rfl rfl d_Txt_copy_4 ?_
    refine j_icmp_geN (pc := 7) (tgt := 35) C (by omega) (by omega) d_Txt_copy_7 rfl (fun c7 => ?_) (fun c7 => ?_)
    · skip
      refine j_aload_n (pc := 35) C d_Txt_copy_35 rfl 0 rfl ?_
      refine j_aload_n (pc := 36) C d_Txt_copy_36 rfl 1 rfl ?_
      refine j_get (pc := 37) C F_Txt_15 2 rfl rfl d_Txt_copy_37 ?_
      refine j_put (pc := 40) (ws' := [(h, .inr (3, [.ref hb, .int (nI n)])), (hb, .inl (aB g, 2000, .inl (bf (cpT t t0 i)))), (k0, .inr (3, [.ref kb, .int (nI n)])), (kb, .inl (aB g, 2000, .inl (bf t)))]) C Fp_Txt_15 0 rfl rfl (by first | rfl | decide) (Nat.le_of_ble_eq_true rfl) rfl d_Txt_copy_40 ?_
      exact hR.2.2 _ _ _ d_Txt_copy_43 rfl (⟨rfl, by rw [show i = n by omega]⟩)
    · skip
      refine j_iload_n (pc := 10) C d_Txt_copy_10 rfl 2 rfl ?_
      refine j_sipush (pc := 11) (v := nI 2000) C d_Txt_copy_11 (by decide) ?_
      refine j_icmp_geN (pc := 14) (tgt := 35) C (by omega) (by omega) d_Txt_copy_14 rfl (fun c14 => ?_) (fun c14 => ?_)
      · skip
        exfalso; omega
      · skip
        refine j_aload_n (pc := 17) C d_Txt_copy_17 rfl 0 rfl ?_
        refine j_get (pc := 18) C F_Txt_9 0 rfl rfl d_Txt_copy_18 ?_
        refine j_iload_n (pc := 21) C d_Txt_copy_21 rfl 2 rfl ?_
        refine j_aload_n (pc := 22) C d_Txt_copy_22 rfl 1 rfl ?_
        refine j_get (pc := 23) C F_Txt_9 2 rfl rfl d_Txt_copy_23 ?_
        refine j_iload_n (pc := 26) C d_Txt_copy_26 rfl 2 rfl ?_
        refine j_baldN (pc := 27) C 3 0 rfl rfl (by omega) (by omega) d_Txt_copy_27 ?_
        refine j_bastB (pc := 28) (ws' := [(h, .inr (3, [.ref hb, .int x])), (hb, .inl (aB g, 2000, .inl (bf (va_up (cpT t t0 i) i (t i))))), (k0, .inr (3, [.ref kb, .int (nI n)])), (kb, .inl (aB g, 2000, .inl (bf t)))]) C 1 0 rfl rfl (by omega) (by omega) (sb_nar _) rfl d_Txt_copy_28 ?_
        refine j_iinc (pc := 29) (k := 2) (v := nI (i + 1)) (lv' := [(2, .int (nI (i + 1))), (0, .ref h), (1, .ref k0)]) C d_Txt_copy_29 rfl (j_inc _ _) (by decide) rfl ?_
        refine j_goto (pc := 32) (tgt := 2) C d_Txt_copy_32 rfl ?_
        refine j_lv (lv' := [(0, .ref h), (1, .ref k0), (2, .int (nI (i + 1)))]) [1, 2, 0] rfl ?_
        rw [cpT_s]
        exact ih (i + 1) (by omega) (by omega)
set_option maxHeartbeats 4000000 in
set_option maxRecDepth 100000 in
theorem c_Txt_copy (l : Launch) (g : JX) (h hb k0 kb n : Nat) (t t0 : Nat → Nat) (x : Int32) (hn : n ≤ 2000) : j_Ct l y_Txt_copy b_Txt_copy 3 none rm_Txt_copy g ([(h, .inr (3, [.ref hb, .int x])), (hb, .inl (aB g, 2000, .inl (bf t0))), (k0, .inr (3, [.ref kb, .int (nI n)])), (kb, .inl (aB g, 2000, .inl (bf t)))]) [.ref h, .ref k0] (fun r w => r = none ∧ w = [(h, .inr (3, [.ref hb, .int (nI n)])), (hb, .inl (aB g, 2000, .inl (bf (cpT t t0 n)))), (k0, .inr (3, [.ref kb, .int (nI n)])), (kb, .inl (aB g, 2000, .inl (bf t)))]) 0 0 := by
  refine j_ct (by decide) (Nat.le_of_ble_eq_true rfl) (fun κ hkl C hR hI => ?_)
  show j_V g κ 0 0 0 [(0, .ref h), (1, .ref k0)] [] ([(h, .inr (3, [.ref hb, .int x])), (hb, .inl (aB g, 2000, .inl (bf t0))), (k0, .inr (3, [.ref kb, .int (nI n)])), (kb, .inl (aB g, 2000, .inl (bf t)))])
  refine j_iconst (pc := 0) (v := nI 0) C d_Txt_copy_0 (by decide) ?_
  refine j_istore_n (pc := 1) (lv' := [(2, .int (nI 0)), (0, .ref h), (1, .ref k0)]) C d_Txt_copy_1 rfl (by decide) rfl ?_
  refine j_lv (lv' := [(0, .ref h), (1, .ref k0), (2, .int (nI 0))]) [1, 2, 0] rfl ?_
  have e := lp_Txt_copy (h := h) (hb := hb) (k0 := k0) (kb := kb) (t := t) (t0 := t0) (x := x) hn C hR (n + 1) 0 (by omega) (by omega)
  rw [cpT_0] at e
  exact e
abbrev rm_Txt_hasRoom : Room := { frames := 0, cells := 0, slots := 0, locals := 0 }
set_option maxHeartbeats 4000000 in
set_option maxRecDepth 100000 in
theorem c_Txt_hasRoom (l : Launch) (g : JX) (h hb n k : Nat) (hn : n ≤ 2000) (hk : k < 2 ^ 31) : j_Ct l y_Txt_hasRoom b_Txt_hasRoom 2 (some .boolean) rm_Txt_hasRoom g ([(h, .inr (3, [.ref hb, .int (nI n)]))]) [.ref h, .int (nI k)] (fun r w => r = some (.int (if k ≤ 2000 - n then (1 : Int32) else 0)) ∧ w = [(h, .inr (3, [.ref hb, .int (nI n)]))]) 0 0 := by
  refine j_ct (by decide) (Nat.le_of_ble_eq_true rfl) (fun κ hkl C hR hI => ?_)
  show j_V g κ 0 0 0 [(0, .ref h), (1, .int (nI k))] [] ([(h, .inr (3, [.ref hb, .int (nI n)]))])
  refine j_iload_n (pc := 0) C d_Txt_hasRoom_0 rfl 1 rfl ?_
  refine j_if_ltN (pc := 1) (tgt := 20) C (by omega) d_Txt_hasRoom_1 rfl ?_
  refine j_iload_n (pc := 4) C d_Txt_hasRoom_4 rfl 1 rfl ?_
  refine j_sipush (pc := 5) (v := nI 2000) C d_Txt_hasRoom_5 (by decide) ?_
  refine j_aload_n (pc := 8) C d_Txt_hasRoom_8 rfl 0 rfl ?_
  refine j_get (pc := 9) C F_Txt_15 0 rfl rfl d_Txt_hasRoom_9 ?_
  refine j_isubN (pc := 12) C (by omega) d_Txt_hasRoom_12 ?_
  refine j_icmp_gtN (pc := 13) (tgt := 20) C (by omega) (by omega) d_Txt_hasRoom_13 rfl (fun c13 => ?_) (fun c13 => ?_)
  · skip
    refine j_iconst (pc := 20) (v := nI 0) C d_Txt_hasRoom_20 (by decide) ?_
    exact hR.1 _ _ _ _ d_Txt_hasRoom_21 ⟨_, rfl, by first | rfl | decide⟩ (⟨by first | rw [if_pos (by omega)]; rfl | rw [if_neg (by omega)]; rfl, rfl⟩)
  · skip
    refine j_iconst (pc := 16) (v := nI 1) C d_Txt_hasRoom_16 (by decide) ?_
    refine j_goto (pc := 17) (tgt := 21) C d_Txt_hasRoom_17 rfl ?_
    exact hR.1 _ _ _ _ d_Txt_hasRoom_21 ⟨_, rfl, by first | rfl | decide⟩ (⟨by first | rw [if_pos (by omega)]; rfl | rw [if_neg (by omega)]; rfl, rfl⟩)
abbrev rm_Txt_add : Room := { frames := 0, cells := 0, slots := 0, locals := 0 }
set_option maxHeartbeats 4000000 in
set_option maxRecDepth 100000 in
theorem c_Txt_add (l : Launch) (g : JX) (h hb n c : Nat) (t : Nat → Nat) (hn : n < 2000) : j_Ct l y_Txt_add b_Txt_add 2 none rm_Txt_add g ([(h, .inr (3, [.ref hb, .int (nI n)])), (hb, .inl (aB g, 2000, .inl (bf t)))]) [.ref h, .int (sb_b c)] (fun r w => r = none ∧ w = [(h, .inr (3, [.ref hb, .int (nI (n + 1))])), (hb, .inl (aB g, 2000, .inl (bf (va_up t n c))))]) 0 0 := by
  refine j_ct (by decide) (Nat.le_of_ble_eq_true rfl) (fun κ hkl C hR hI => ?_)
  show j_V g κ 0 0 0 [(0, .ref h), (1, .int (sb_b c))] [] ([(h, .inr (3, [.ref hb, .int (nI n)])), (hb, .inl (aB g, 2000, .inl (bf t)))])
  refine j_aload_n (pc := 0) C d_Txt_add_0 rfl 0 rfl ?_
  refine j_get (pc := 1) C F_Txt_15 0 rfl rfl d_Txt_add_1 ?_
  refine j_if_ltN (pc := 4) (tgt := 37) C (by omega) d_Txt_add_4 rfl ?_
  refine j_aload_n (pc := 7) C d_Txt_add_7 rfl 0 rfl ?_
  refine j_get (pc := 8) C F_Txt_15 0 rfl rfl d_Txt_add_8 ?_
  refine j_sipush (pc := 11) (v := nI 2000) C d_Txt_add_11 (by decide) ?_
  refine j_icmp_geN (pc := 14) (tgt := 37) C (by omega) (by omega) d_Txt_add_14 rfl (fun c14 => ?_) (fun c14 => ?_)
  · skip
    exfalso; omega
  · skip
    refine j_aload_n (pc := 17) C d_Txt_add_17 rfl 0 rfl ?_
    refine j_get (pc := 18) C F_Txt_9 0 rfl rfl d_Txt_add_18 ?_
    refine j_aload_n (pc := 21) C d_Txt_add_21 rfl 0 rfl ?_
    refine j_get (pc := 22) C F_Txt_15 0 rfl rfl d_Txt_add_22 ?_
    refine j_iload_n (pc := 25) C d_Txt_add_25 rfl 1 rfl ?_
    refine j_bastB (pc := 26) (ws' := [(h, .inr (3, [.ref hb, .int (nI n)])), (hb, .inl (aB g, 2000, .inl (bf (va_up t n c))))]) C 1 0 rfl rfl (by omega) (by omega) (sb_nar _) rfl d_Txt_add_26 ?_
    refine j_aload_n (pc := 27) C d_Txt_add_27 rfl 0 rfl ?_
    refine j_dup (pc := 28) C d_Txt_add_28 rfl ?_
    refine j_get (pc := 29) C F_Txt_15 0 rfl rfl d_Txt_add_29 ?_
    refine j_iconst (pc := 32) (v := nI 1) C d_Txt_add_32 (by decide) ?_
    refine j_iaddN (pc := 33) C d_Txt_add_33 ?_
    refine j_put (pc := 34) (ws' := [(h, .inr (3, [.ref hb, .int (nI (n + 1))])), (hb, .inl (aB g, 2000, .inl (bf (va_up t n c))))]) C Fp_Txt_15 0 rfl rfl (by first | rfl | decide) (Nat.le_of_ble_eq_true rfl) rfl d_Txt_add_34 ?_
    exact hR.2.2 _ _ _ d_Txt_add_37 rfl (⟨rfl, rfl⟩)
abbrev rm_Txt_addHighFirst : Room := { frames := 1, cells := 0, slots := 0, locals := 21 }
set_option maxHeartbeats 4000000 in
set_option maxRecDepth 100000 in
theorem lp_Txt_hi {g : JX} {κ : JK} {h hb n k1 : Nat} {t : Nat → Nat} {v : Int64} (hn : n + k1 ≤ 2000) (hk1 : k1 ≤ 8) (C : j_C g κ b_Txt_addHighFirst R_Txt rm_Txt_addHighFirst 5) (hR : j_R g κ b_Txt_addHighFirst none (fun r w => r = none ∧ w = [(h, .inr (3, [.ref hb, .int (nI (n + k1))])), (hb, .inl (aB g, 2000, .inl (bf (putF t n k1 (fun q => lb v (k1 - 1 - q))))))]) 0 0) : ∀ (k : Nat) (r m : Nat), r + m = k1 → r + 1 ≤ k → j_V g κ (0) (0) 5 [(0, .ref h), (1, .long v), (3, .int (nI k1)), (4, .int (dn r))] [] ([(h, .inr (3, [.ref hb, .int (nI (n + m))])), (hb, .inl (aB g, 2000, .inl (bf (putF t n m (fun q => lb v (k1 - 1 - q))))))]) := by
  intro k
  induction k with
  | zero =>
    intro r m hm hk
    exfalso; omega
  | succ k ih =>
    intro r m hm hk
    cases r with
    | zero =>
      show j_V g κ 0 0 5 [(0, .ref h), (1, .long v), (3, .int (nI k1)), (4, .int (-1 : Int32))] [] ([(h, .inr (3, [.ref hb, .int (nI (n + m))])), (hb, .inl (aB g, 2000, .inl (bf (putF t n m (fun q => lb v (k1 - 1 - q))))))])
      refine j_iload (pc := 5) C d_Txt_addHighFirst_5 3 rfl ?_
      refine j_ifdn_lt (pc := 7) (tgt := 29) C d_Txt_addHighFirst_7 rfl ?_
      exact hR.2.2 _ _ _ d_Txt_addHighFirst_29 rfl (⟨rfl, by rw [show m = k1 by omega]⟩)
    | succ r =>
      show j_V g κ 0 0 5 [(0, .ref h), (1, .long v), (3, .int (nI k1)), (4, .int (nI r))] [] ([(h, .inr (3, [.ref hb, .int (nI (n + m))])), (hb, .inl (aB g, 2000, .inl (bf (putF t n m (fun q => lb v (k1 - 1 - q))))))])
      refine j_iload (pc := 5) C d_Txt_addHighFirst_5 3 rfl ?_
      refine j_if_ltN (pc := 7) (tgt := 29) C (by omega) d_Txt_addHighFirst_7 rfl ?_
      refine j_aload_n (pc := 10) C d_Txt_addHighFirst_10 rfl 0 rfl ?_
      refine j_lload_n (pc := 11) C d_Txt_addHighFirst_11 rfl 1 rfl ?_
      refine j_bipush (pc := 12) (v := nI 8) C d_Txt_addHighFirst_12 (by decide) ?_
      refine j_iload (pc := 14) C d_Txt_addHighFirst_14 3 rfl ?_
      refine j_imulN (pc := 16) C d_Txt_addHighFirst_16 ?_
      refine j_lushr (pc := 17) (v := (v.toUInt64 >>> ((nI (8 * r)).toInt64.toUInt64 &&& Int64.toUInt64 63)).toInt64) C d_Txt_addHighFirst_17 rfl ?_
      refine j_l2i (pc := 18) (v := ((v.toUInt64 >>> ((nI (8 * r)).toInt64.toUInt64 &&& Int64.toUInt64 63)).toInt64).toInt32) C d_Txt_addHighFirst_18 (rfl) ?_
      refine j_i2b (pc := 19) (v := (((v.toUInt64 >>> ((nI (8 * r)).toInt64.toUInt64 &&& Int64.toUInt64 63)).toInt64).toInt32).toInt8.toInt32) C d_Txt_addHighFirst_19 rfl ?_
      refine j_rwi (y := sb_b (lb v r)) (lb_byte v r (by omega)) ?_
      refine j_callV (pc := 20) (As := [.int (sb_b (lb v r))]) (rest := []) (wc := [(h, .inr (3, [.ref hb, .int (nI (n + m))])), (hb, .inl (aB g, 2000, .inl (bf (putF t n m (fun q => lb v (k1 - 1 - q))))))]) (wr := []) C (c_Txt_add (kl κ) g h hb (n + m) (lb v r) (putF t n m (fun q => lb v (k1 - 1 - q))) (by omega)) Y_Txt_add ml_Txt_19 im_Txt_add sl_Txt_add rfl ⟨by decide, by decide⟩ rfl (ci := 3) (q0 := 0) rfl rfl rfl (Nat.le_of_ble_eq_true rfl) (j_sb [0, 1] rfl rfl) rfl d_Txt_addHighFirst_20 (fun r w1 hO => ?_)
      obtain ⟨rfl, rfl⟩ := hO
      show j_V g κ 0 0 23 [(0, .ref h), (1, .long v), (3, .int (nI k1)), (4, .int (nI r))] [] ([(h, .inr (3, [.ref hb, .int (nI (n + m + 1))])), (hb, .inl (aB g, 2000, .inl (bf (va_up (putF t n m (fun q => lb v (k1 - 1 - q))) (n + m) (lb v r)))))])
      refine j_iinc (pc := 23) (k := 3) (v := dn r) (lv' := [(4, .int (dn r)), (0, .ref h), (1, .long v), (3, .int (nI k1))]) C d_Txt_addHighFirst_23 rfl (dn_dec r) (by decide) rfl ?_
      refine j_goto (pc := 26) (tgt := 5) C d_Txt_addHighFirst_26 rfl ?_
      refine j_lv (lv' := [(0, .ref h), (1, .long v), (3, .int (nI k1)), (4, .int (dn r))]) [1, 2, 3, 0] rfl ?_
      have e := ih r (m + 1) (by omega) (by omega)
      rw [← putF_s, show k1 - 1 - m = r by omega] at e
      exact e
set_option maxHeartbeats 4000000 in
set_option maxRecDepth 100000 in
theorem c_Txt_addHighFirst (l : Launch) (g : JX) (h hb n k1 : Nat) (t : Nat → Nat) (v : Int64) (hn : n + k1 ≤ 2000) (hk1 : k1 ≤ 8) : j_Ct l y_Txt_addHighFirst b_Txt_addHighFirst 5 none rm_Txt_addHighFirst g ([(h, .inr (3, [.ref hb, .int (nI n)])), (hb, .inl (aB g, 2000, .inl (bf t)))]) [.ref h, .long v, .int (nI k1)] (fun r w => r = none ∧ w = [(h, .inr (3, [.ref hb, .int (nI (n + k1))])), (hb, .inl (aB g, 2000, .inl (bf (putF t n k1 (fun q => lb v (k1 - 1 - q))))))]) 0 0 := by
  refine j_ct (by decide) (Nat.le_of_ble_eq_true rfl) (fun κ hkl C hR hI => ?_)
  show j_V g κ 0 0 0 [(0, .ref h), (1, .long v), (3, .int (nI k1))] [] ([(h, .inr (3, [.ref hb, .int (nI n)])), (hb, .inl (aB g, 2000, .inl (bf t)))])
  refine j_iload_n (pc := 0) C d_Txt_addHighFirst_0 rfl 2 rfl ?_
  refine j_iconst (pc := 1) (v := nI 1) C d_Txt_addHighFirst_1 (by decide) ?_
  refine j_isub (pc := 2) C d_Txt_addHighFirst_2 ?_
  refine j_rwi (y := dn k1) (dn_sub _) ?_
  refine j_istore (pc := 3) (lv' := [(4, .int (dn k1)), (0, .ref h), (1, .long v), (3, .int (nI k1))]) C d_Txt_addHighFirst_3 (by decide) rfl ?_
  refine j_lv (lv' := [(0, .ref h), (1, .long v), (3, .int (nI k1)), (4, .int (dn k1))]) [1, 2, 3, 0] rfl ?_
  have e := lp_Txt_hi (h := h) (hb := hb) (n := n) (k1 := k1) (t := t) (v := v) hn hk1 C hR (k1 + 1) k1 0 (by omega) (by omega)
  rw [putF_0] at e
  exact e
abbrev rm_Txt_addLowFirst : Room := { frames := 1, cells := 0, slots := 0, locals := 21 }
set_option maxHeartbeats 4000000 in
set_option maxRecDepth 100000 in
theorem lp_Txt_lo {g : JX} {κ : JK} {h hb n k1 : Nat} {t : Nat → Nat} {v : Int64} (hn : n + k1 ≤ 2000) (hk1 : k1 ≤ 8) (C : j_C g κ b_Txt_addLowFirst R_Txt rm_Txt_addLowFirst 5) (hR : j_R g κ b_Txt_addLowFirst none (fun r w => r = none ∧ w = [(h, .inr (3, [.ref hb, .int (nI (n + k1))])), (hb, .inl (aB g, 2000, .inl (bf (putF t n k1 (fun q => lb v q)))))]) 0 0) : ∀ (k : Nat) (m : Nat), m ≤ k1 → k1 + 1 ≤ m + k → j_V g κ (0) (0) 3 [(0, .ref h), (1, .long v), (3, .int (nI k1)), (4, .int (nI m))] [] ([(h, .inr (3, [.ref hb, .int (nI (n + m))])), (hb, .inl (aB g, 2000, .inl (bf (putF t n m (fun q => lb v q)))))]) := by
  intro k
  induction k with
  | zero =>
    intro m hm hk
    exfalso; omega
  | succ k ih =>
    intro m hm hk
    refine j_iload (pc := 3) C d_Txt_addLowFirst_3 3 rfl ?_
    refine j_iload_n (pc := 5) C d_Txt_addLowFirst_5 rfl 2 rfl ?_
    refine j_icmp_geN (pc := 6) (tgt := 28) C (by omega) (by omega) d_Txt_addLowFirst_6 rfl (fun c6 => ?_) (fun c6 => ?_)
    · skip
      exact hR.2.2 _ _ _ d_Txt_addLowFirst_28 rfl (⟨rfl, by rw [show m = k1 by omega]⟩)
    · skip
      refine j_aload_n (pc := 9) C d_Txt_addLowFirst_9 rfl 0 rfl ?_
      refine j_lload_n (pc := 10) C d_Txt_addLowFirst_10 rfl 1 rfl ?_
      refine j_bipush (pc := 11) (v := nI 8) C d_Txt_addLowFirst_11 (by decide) ?_
      refine j_iload (pc := 13) C d_Txt_addLowFirst_13 3 rfl ?_
      refine j_imulN (pc := 15) C d_Txt_addLowFirst_15 ?_
      refine j_lushr (pc := 16) (v := (v.toUInt64 >>> ((nI (8 * m)).toInt64.toUInt64 &&& Int64.toUInt64 63)).toInt64) C d_Txt_addLowFirst_16 rfl ?_
      refine j_l2i (pc := 17) (v := ((v.toUInt64 >>> ((nI (8 * m)).toInt64.toUInt64 &&& Int64.toUInt64 63)).toInt64).toInt32) C d_Txt_addLowFirst_17 (rfl) ?_
      refine j_i2b (pc := 18) (v := (((v.toUInt64 >>> ((nI (8 * m)).toInt64.toUInt64 &&& Int64.toUInt64 63)).toInt64).toInt32).toInt8.toInt32) C d_Txt_addLowFirst_18 rfl ?_
      refine j_rwi (y := sb_b (lb v m)) (lb_byte v m (by omega)) ?_
      refine j_callV (pc := 19) (As := [.int (sb_b (lb v m))]) (rest := []) (wc := [(h, .inr (3, [.ref hb, .int (nI (n + m))])), (hb, .inl (aB g, 2000, .inl (bf (putF t n m (fun q => lb v q)))))]) (wr := []) C (c_Txt_add (kl κ) g h hb (n + m) (lb v m) (putF t n m (fun q => lb v q)) (by omega)) Y_Txt_add ml_Txt_19 im_Txt_add sl_Txt_add rfl ⟨by decide, by decide⟩ rfl (ci := 3) (q0 := 0) rfl rfl rfl (Nat.le_of_ble_eq_true rfl) (j_sb [0, 1] rfl rfl) rfl d_Txt_addLowFirst_19 (fun r w1 hO => ?_)
      obtain ⟨rfl, rfl⟩ := hO
      show j_V g κ 0 0 22 [(0, .ref h), (1, .long v), (3, .int (nI k1)), (4, .int (nI m))] [] ([(h, .inr (3, [.ref hb, .int (nI (n + m + 1))])), (hb, .inl (aB g, 2000, .inl (bf (va_up (putF t n m (fun q => lb v q)) (n + m) (lb v m)))))])
      refine j_iinc (pc := 22) (k := 3) (v := nI (m + 1)) (lv' := [(4, .int (nI (m + 1))), (0, .ref h), (1, .long v), (3, .int (nI k1))]) C d_Txt_addLowFirst_22 rfl (j_inc _ _) (by decide) rfl ?_
      refine j_goto (pc := 25) (tgt := 3) C d_Txt_addLowFirst_25 rfl ?_
      refine j_lv (lv' := [(0, .ref h), (1, .long v), (3, .int (nI k1)), (4, .int (nI (m + 1)))]) [1, 2, 3, 0] rfl ?_
      have e := ih (m + 1) (by omega) (by omega)
      rw [← putF_s] at e
      exact e
set_option maxHeartbeats 4000000 in
set_option maxRecDepth 100000 in
theorem c_Txt_addLowFirst (l : Launch) (g : JX) (h hb n k1 : Nat) (t : Nat → Nat) (v : Int64) (hn : n + k1 ≤ 2000) (hk1 : k1 ≤ 8) : j_Ct l y_Txt_addLowFirst b_Txt_addLowFirst 5 none rm_Txt_addLowFirst g ([(h, .inr (3, [.ref hb, .int (nI n)])), (hb, .inl (aB g, 2000, .inl (bf t)))]) [.ref h, .long v, .int (nI k1)] (fun r w => r = none ∧ w = [(h, .inr (3, [.ref hb, .int (nI (n + k1))])), (hb, .inl (aB g, 2000, .inl (bf (putF t n k1 (fun q => lb v q)))))]) 0 0 := by
  refine j_ct (by decide) (Nat.le_of_ble_eq_true rfl) (fun κ hkl C hR hI => ?_)
  show j_V g κ 0 0 0 [(0, .ref h), (1, .long v), (3, .int (nI k1))] [] ([(h, .inr (3, [.ref hb, .int (nI n)])), (hb, .inl (aB g, 2000, .inl (bf t)))])
  refine j_iconst (pc := 0) (v := nI 0) C d_Txt_addLowFirst_0 (by decide) ?_
  refine j_istore (pc := 1) (lv' := [(4, .int (nI 0)), (0, .ref h), (1, .long v), (3, .int (nI k1))]) C d_Txt_addLowFirst_1 (by decide) rfl ?_
  refine j_lv (lv' := [(0, .ref h), (1, .long v), (3, .int (nI k1)), (4, .int (nI 0))]) [1, 2, 3, 0] rfl ?_
  have e := lp_Txt_lo (h := h) (hb := hb) (n := n) (k1 := k1) (t := t) (v := v) hn hk1 C hR (k1 + 1) 0 (by omega) (by omega)
  rw [putF_0] at e
  exact e
abbrev rm_Txt_at : Room := { frames := 0, cells := 0, slots := 0, locals := 0 }
set_option maxHeartbeats 4000000 in
set_option maxRecDepth 100000 in
theorem c_Txt_at (l : Launch) (g : JX) (h hb n : Nat) (t : Nat → Nat) (x : Int32) (hn : n ≤ 2000) (hT : ∀ j, t j < 256) : j_Ct l y_Txt_at b_Txt_at 2 (some .int) rm_Txt_at g ([(h, .inr (3, [.ref hb, .int (nI n)])), (hb, .inl (aB g, 2000, .inl (bf t)))]) [.ref h, .int x] (fun r w => r = some (.int (atI t n x)) ∧ w = [(h, .inr (3, [.ref hb, .int (nI n)])), (hb, .inl (aB g, 2000, .inl (bf t)))]) 0 0 := by
  refine j_ct (by decide) (Nat.le_of_ble_eq_true rfl) (fun κ hkl C hR hI => ?_)
  show j_V g κ 0 0 0 [(0, .ref h), (1, .int x)] [] ([(h, .inr (3, [.ref hb, .int (nI n)])), (hb, .inl (aB g, 2000, .inl (bf t)))])
  rcases pk_ix x (n := n) (by omega) with hx | hx | ⟨p, hp, rfl⟩
  · skip
    refine j_iload_n (pc := 0) C d_Txt_at_0 rfl 1 rfl ?_
    refine j_if_lt (pc := 1) (tgt := 25) C d_Txt_at_1 rfl (fun c1 => ?_) (fun c1 => ?_)
    · skip
      refine j_iconst (pc := 25) (v := (-1 : Int32)) C d_Txt_at_25 (by decide) ?_
      exact hR.1 _ _ _ _ d_Txt_at_26 ⟨_, rfl, by first | rfl | decide⟩ (⟨by first | (exfalso; omega) | rw [atI_neg (by assumption)] | rw [atI_big (by assumption)] | rw [atI_in hp (by omega)] | (exfalso; omega), rfl⟩)
    · skip
      refine j_iload_n (pc := 4) C d_Txt_at_4 rfl 1 rfl ?_
      refine j_aload_n (pc := 5) C d_Txt_at_5 rfl 0 rfl ?_
      refine j_get (pc := 6) C F_Txt_15 0 rfl rfl d_Txt_at_6 ?_
      refine j_icmp_ge (pc := 9) (tgt := 25) C d_Txt_at_9 rfl (fun c9 => ?_) (fun c9 => ?_)
      · skip
        refine j_iconst (pc := 25) (v := (-1 : Int32)) C d_Txt_at_25 (by decide) ?_
        exact hR.1 _ _ _ _ d_Txt_at_26 ⟨_, rfl, by first | rfl | decide⟩ (⟨by first | (exfalso; omega) | rw [atI_neg (by assumption)] | rw [atI_big (by assumption)] | rw [atI_in hp (by omega)] | (exfalso; omega), rfl⟩)
      · skip
        first | exact absurd (by assumption) c9 | exact absurd (by assumption) c1
  · skip
    refine j_iload_n (pc := 0) C d_Txt_at_0 rfl 1 rfl ?_
    refine j_if_lt (pc := 1) (tgt := 25) C d_Txt_at_1 rfl (fun c1 => ?_) (fun c1 => ?_)
    · skip
      refine j_iconst (pc := 25) (v := (-1 : Int32)) C d_Txt_at_25 (by decide) ?_
      exact hR.1 _ _ _ _ d_Txt_at_26 ⟨_, rfl, by first | rfl | decide⟩ (⟨by first | (exfalso; omega) | rw [atI_neg (by assumption)] | rw [atI_big (by assumption)] | rw [atI_in hp (by omega)] | (exfalso; omega), rfl⟩)
    · skip
      refine j_iload_n (pc := 4) C d_Txt_at_4 rfl 1 rfl ?_
      refine j_aload_n (pc := 5) C d_Txt_at_5 rfl 0 rfl ?_
      refine j_get (pc := 6) C F_Txt_15 0 rfl rfl d_Txt_at_6 ?_
      refine j_icmp_ge (pc := 9) (tgt := 25) C d_Txt_at_9 rfl (fun c9 => ?_) (fun c9 => ?_)
      · skip
        refine j_iconst (pc := 25) (v := (-1 : Int32)) C d_Txt_at_25 (by decide) ?_
        exact hR.1 _ _ _ _ d_Txt_at_26 ⟨_, rfl, by first | rfl | decide⟩ (⟨by first | (exfalso; omega) | rw [atI_neg (by assumption)] | rw [atI_big (by assumption)] | rw [atI_in hp (by omega)] | (exfalso; omega), rfl⟩)
      · skip
        first | exact absurd (by assumption) c9 | exact absurd (by assumption) c1
  · skip
    refine j_iload_n (pc := 0) C d_Txt_at_0 rfl 1 rfl ?_
    refine j_if_ltN (pc := 1) (tgt := 25) C (by omega) d_Txt_at_1 rfl ?_
    refine j_iload_n (pc := 4) C d_Txt_at_4 rfl 1 rfl ?_
    refine j_aload_n (pc := 5) C d_Txt_at_5 rfl 0 rfl ?_
    refine j_get (pc := 6) C F_Txt_15 0 rfl rfl d_Txt_at_6 ?_
    refine j_icmp_geN (pc := 9) (tgt := 25) C (by omega) (by omega) d_Txt_at_9 rfl (fun c9 => ?_) (fun c9 => ?_)
    · skip
      refine j_iconst (pc := 25) (v := (-1 : Int32)) C d_Txt_at_25 (by decide) ?_
      exact hR.1 _ _ _ _ d_Txt_at_26 ⟨_, rfl, by first | rfl | decide⟩ (⟨by first | (exfalso; omega) | rw [atI_neg (by assumption)] | rw [atI_big (by assumption)] | rw [atI_in hp (by omega)] | (exfalso; omega), rfl⟩)
    · skip
      refine j_aload_n (pc := 12) C d_Txt_at_12 rfl 0 rfl ?_
      refine j_get (pc := 13) C F_Txt_9 0 rfl rfl d_Txt_at_13 ?_
      refine j_iload_n (pc := 16) C d_Txt_at_16 rfl 1 rfl ?_
      refine j_baldN (pc := 17) C 1 0 rfl rfl (by omega) (by omega) d_Txt_at_17 ?_
      refine j_sipush (pc := 18) (v := nI 255) C d_Txt_at_18 (by decide) ?_
      refine j_iand (pc := 21) C d_Txt_at_21 ?_
      refine j_rwi (y := nI (t p)) (sb_and (by first | exact hT _ | omega)) ?_
      refine j_goto (pc := 22) (tgt := 26) C d_Txt_at_22 rfl ?_
      exact hR.1 _ _ _ _ d_Txt_at_26 ⟨_, rfl, by first | rfl | decide⟩ (⟨by first | (exfalso; omega) | rw [atI_neg (by assumption)] | rw [atI_big (by assumption)] | rw [atI_in hp (by omega)] | (exfalso; omega), rfl⟩)
abbrev rm_Txt_lowFirst : Room := { frames := 0, cells := 0, slots := 0, locals := 0 }
set_option maxHeartbeats 4000000 in
set_option maxRecDepth 100000 in
theorem lp_Txt_lf {g : JX} {κ : JK} {h hb n p k1 : Nat} {t : Nat → Nat} (hn : n ≤ 2000) (hT : ∀ j, t j < 256) (hp : p + k1 ≤ n) (hk1 : k1 ≤ 8) (C : j_C g κ b_Txt_lowFirst R_Txt rm_Txt_lowFirst 6) (hR : j_R g κ b_Txt_lowFirst (some .long) (fun r w => r = some (.long (lN (lf t p k1))) ∧ w = [(h, .inr (3, [.ref hb, .int (nI n)])), (hb, .inl (aB g, 2000, .inl (bf t)))]) 0 0) : ∀ (k : Nat) (r : Nat), r ≤ k1 → r + 1 ≤ k → j_V g κ (0) (0) 29 [(0, .ref h), (1, .int (nI p)), (2, .int (nI k1)), (3, .long (lN (lf t (p + r) (k1 - r)))), (5, .int (dn r))] [] ([(h, .inr (3, [.ref hb, .int (nI n)])), (hb, .inl (aB g, 2000, .inl (bf t)))]) := by
  intro k
  induction k with
  | zero =>
    intro r hr hk
    exfalso; omega
  | succ k ih =>
    intro r hr hk
    cases r with
    | zero =>
      show j_V g κ 0 0 29 [(0, .ref h), (1, .int (nI p)), (2, .int (nI k1)), (3, .long (lN (lf t (p + 0) (k1 - 0)))), (5, .int (-1 : Int32))] [] ([(h, .inr (3, [.ref hb, .int (nI n)])), (hb, .inl (aB g, 2000, .inl (bf t)))])
      refine j_iload (pc := 29) C d_Txt_lowFirst_29 4 rfl ?_
      refine j_ifdn_lt (pc := 31) (tgt := 60) C d_Txt_lowFirst_31 rfl ?_
      refine j_lload_n (pc := 60) C d_Txt_lowFirst_60 rfl 3 rfl ?_
      exact hR.2.1 _ _ _ _ d_Txt_lowFirst_61 rfl (⟨rfl, rfl⟩)
    | succ r =>
      show j_V g κ 0 0 29 [(0, .ref h), (1, .int (nI p)), (2, .int (nI k1)), (3, .long (lN (lf t (p + (r + 1)) (k1 - (r + 1))))), (5, .int (nI r))] [] ([(h, .inr (3, [.ref hb, .int (nI n)])), (hb, .inl (aB g, 2000, .inl (bf t)))])
      refine j_iload (pc := 29) C d_Txt_lowFirst_29 4 rfl ?_
      refine j_if_ltN (pc := 31) (tgt := 60) C (by omega) d_Txt_lowFirst_31 rfl ?_
      refine j_lload_n (pc := 34) C d_Txt_lowFirst_34 rfl 3 rfl ?_
      refine j_bipush (pc := 35) (v := nI 8) C d_Txt_lowFirst_35 (by decide) ?_
      refine j_lshl (pc := 37) (v := (lN (lf t (p + (r + 1)) (k1 - (r + 1)))) <<< ((nI 8).toInt64 &&& 63)) C d_Txt_lowFirst_37 rfl ?_
      refine j_aload_n (pc := 38) C d_Txt_lowFirst_38 rfl 0 rfl ?_
      refine j_get (pc := 39) C F_Txt_9 0 rfl rfl d_Txt_lowFirst_39 ?_
      refine j_iload_n (pc := 42) C d_Txt_lowFirst_42 rfl 1 rfl ?_
      refine j_iload (pc := 43) C d_Txt_lowFirst_43 4 rfl ?_
      refine j_iaddN (pc := 45) C d_Txt_lowFirst_45 ?_
      refine j_baldN (pc := 46) C 1 0 rfl rfl (by omega) (by omega) d_Txt_lowFirst_46 ?_
      refine j_sipush (pc := 47) (v := nI 255) C d_Txt_lowFirst_47 (by decide) ?_
      refine j_iand (pc := 50) C d_Txt_lowFirst_50 ?_
      refine j_rwi (y := nI (t (p + r))) (sb_and (by first | exact hT _ | omega)) ?_
      refine j_i2l (pc := 51) (v := lN (t (p + r))) C d_Txt_lowFirst_51 (nI_l (by have h9 := hT (p + r); omega)) ?_
      refine j_lor (pc := 52) C d_Txt_lowFirst_52 ?_
      refine j_rwl (y := lN (lf t (p + r) (k1 - r))) (lf_push hT (by omega) (by omega)) ?_
      refine j_lstore_n (pc := 53) (lv' := [(3, .long (lN (lf t (p + r) (k1 - r)))), (0, .ref h), (1, .int (nI p)), (2, .int (nI k1)), (5, .int (nI r))]) C d_Txt_lowFirst_53 rfl (by decide) rfl ?_
      refine j_iinc (pc := 54) (k := 4) (v := dn r) (lv' := [(5, .int (dn r)), (3, .long (lN (lf t (p + r) (k1 - r)))), (0, .ref h), (1, .int (nI p)), (2, .int (nI k1))]) C d_Txt_lowFirst_54 rfl (dn_dec r) (by decide) rfl ?_
      refine j_goto (pc := 57) (tgt := 29) C d_Txt_lowFirst_57 rfl ?_
      refine j_lv (lv' := [(0, .ref h), (1, .int (nI p)), (2, .int (nI k1)), (3, .long (lN (lf t (p + r) (k1 - r)))), (5, .int (dn r))]) [2, 3, 4, 1, 0] rfl ?_
      exact ih r (by omega) (by omega)
set_option maxHeartbeats 4000000 in
set_option maxRecDepth 100000 in
theorem c_Txt_lowFirst (l : Launch) (g : JX) (h hb n p k1 : Nat) (t : Nat → Nat) (hn : n ≤ 2000) (hT : ∀ j, t j < 256) (hp : p + k1 ≤ n) (hk1 : k1 ≤ 8) : j_Ct l y_Txt_lowFirst b_Txt_lowFirst 6 (some .long) rm_Txt_lowFirst g ([(h, .inr (3, [.ref hb, .int (nI n)])), (hb, .inl (aB g, 2000, .inl (bf t)))]) [.ref h, .int (nI p), .int (nI k1)] (fun r w => r = some (.long (lN (lf t p k1))) ∧ w = [(h, .inr (3, [.ref hb, .int (nI n)])), (hb, .inl (aB g, 2000, .inl (bf t)))]) 0 0 := by
  refine j_ct (by decide) (Nat.le_of_ble_eq_true rfl) (fun κ hkl C hR hI => ?_)
  show j_V g κ 0 0 0 [(0, .ref h), (1, .int (nI p)), (2, .int (nI k1))] [] ([(h, .inr (3, [.ref hb, .int (nI n)])), (hb, .inl (aB g, 2000, .inl (bf t)))])
  refine j_iload_n (pc := 0) C d_Txt_lowFirst_0 rfl 1 rfl ?_
  refine j_if_ltN (pc := 1) (tgt := 18) C (by omega) d_Txt_lowFirst_1 rfl ?_
  refine j_iload_n (pc := 4) C d_Txt_lowFirst_4 rfl 2 rfl ?_
  refine j_if_ltN (pc := 5) (tgt := 18) C (by omega) d_Txt_lowFirst_5 rfl ?_
  refine j_iload_n (pc := 8) C d_Txt_lowFirst_8 rfl 1 rfl ?_
  refine j_aload_n (pc := 9) C d_Txt_lowFirst_9 rfl 0 rfl ?_
  refine j_get (pc := 10) C F_Txt_15 0 rfl rfl d_Txt_lowFirst_10 ?_
  refine j_iload_n (pc := 13) C d_Txt_lowFirst_13 rfl 2 rfl ?_
  refine j_isubN (pc := 14) C (by omega) d_Txt_lowFirst_14 ?_
  refine j_icmp_leN (pc := 15) (tgt := 22) C (by omega) (by omega) d_Txt_lowFirst_15 rfl (fun c15 => ?_) (fun c15 => ?_)
  · skip
    refine j_lconst (pc := 22) (v := 0) C d_Txt_lowFirst_22 (by decide) ?_
    refine j_lstore_n (pc := 23) (lv' := [(3, .long (0 : Int64)), (0, .ref h), (1, .int (nI p)), (2, .int (nI k1))]) C d_Txt_lowFirst_23 rfl (by decide) rfl ?_
    refine j_iload_n (pc := 24) C d_Txt_lowFirst_24 rfl 3 rfl ?_
    refine j_iconst (pc := 25) (v := nI 1) C d_Txt_lowFirst_25 (by decide) ?_
    refine j_isub (pc := 26) C d_Txt_lowFirst_26 ?_
    refine j_rwi (y := dn k1) (dn_sub _) ?_
    refine j_istore (pc := 27) (lv' := [(5, .int (dn k1)), (3, .long (0 : Int64)), (0, .ref h), (1, .int (nI p)), (2, .int (nI k1))]) C d_Txt_lowFirst_27 (by decide) rfl ?_
    refine j_lv (lv' := [(0, .ref h), (1, .int (nI p)), (2, .int (nI k1)), (3, .long (0 : Int64)), (5, .int (dn k1))]) [2, 3, 4, 1, 0] rfl ?_
    have e := lp_Txt_lf (h := h) (hb := hb) (n := n) (p := p) (k1 := k1) (t := t) hn hT hp hk1 C hR (k1 + 1) k1 (by omega) (by omega)
    rw [Nat.sub_self] at e
    exact e
  · skip
    exfalso; omega
abbrev rm_Txt_init : Room := { frames := 1, cells := 1, slots := 2000, locals := 20 }
set_option maxHeartbeats 4000000 in
set_option maxRecDepth 100000 in
theorem c_Txt_init (l : Launch) (g : JX) (h : Nat)  : j_Ct l y_Txt_init b_Txt_init 1 none rm_Txt_init g ([(h, .inr (3, [.null, .int (0 : Int32)]))]) [.ref h] (fun r w => ∃ hb : Nat, r = none ∧ w = [(h, .inr (3, [.ref hb, .int (nI 0)])), (hb, .inl (aB g, 2000, .inl (bf (fun _ => 0))))]) 1 2000 := by
  refine j_ct (by decide) (Nat.le_of_ble_eq_true rfl) (fun κ hkl C hR hI => ?_)
  show j_V g κ 0 0 0 [(0, .ref h)] [] ([(h, .inr (3, [.null, .int (0 : Int32)]))])
  refine j_aload_n (pc := 0) C d_Txt_init_0 rfl 0 rfl ?_
  refine j_objInit (pc := 1) C oi_Txt_3 oi_i oi_c (by decide) (Nat.le_of_ble_eq_true rfl) d_Txt_init_1 ?_
  refine j_aload_n (pc := 4) C d_Txt_init_4 rfl 0 rfl ?_
  refine j_sipush (pc := 5) (v := nI 2000) C d_Txt_init_5 (by decide) ?_
  refine j_newa (pc := 8) (atype := .byte) (a0 := (2000, .inl (bf (fun _ => 0)))) C ac_byte rfl (by intro c h; cases h) 0 rfl (fun _ => rfl) (by decide) (by decide) (by decide) (by decide) (by decide) d_Txt_init_8 (fun hb => ?_)
  show j_V g κ 1 2000 10 [(0, .ref h)] [.ref hb, .ref h] ([(h, .inr (3, [.null, .int (0 : Int32)])), (hb, .inl (aB g, 2000, .inl (bf (fun _ => 0))))])
  refine j_putF (pc := 10) (ws' := [(h, .inr (3, [.ref hb, .int (0 : Int32)])), (hb, .inl (aB g, 2000, .inl (bf (fun _ => 0))))]) C hI Fp_Txt_9 0 rfl rfl (by first | rfl | decide) (Nat.le_of_ble_eq_true rfl) rfl d_Txt_init_10 ?_
  refine j_aload_n (pc := 13) C d_Txt_init_13 rfl 0 rfl ?_
  refine j_iconst (pc := 14) (v := nI 0) C d_Txt_init_14 (by decide) ?_
  refine j_put (pc := 15) (ws' := [(h, .inr (3, [.ref hb, .int (nI 0)])), (hb, .inl (aB g, 2000, .inl (bf (fun _ => 0))))]) C Fp_Txt_15 0 rfl rfl (by first | rfl | decide) (Nat.le_of_ble_eq_true rfl) rfl d_Txt_init_15 ?_
  exact hR.2.2 _ _ _ d_Txt_init_18 rfl (⟨hb, rfl, rfl⟩)
