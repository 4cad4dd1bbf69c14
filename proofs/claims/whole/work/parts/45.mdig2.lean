abbrev rm_Mod_digestOf : Room := { frames := 2, cells := 0, slots := 0, locals := 53 }
set_option maxHeartbeats 4000000 in
set_option maxRecDepth 100000 in
theorem lp_dz {g : JX} {κ : JK} {o n : Nat} {a : Nat → Nat} {P D : Nat → Nat} {sz le ib mn pl at_ wr wh db : Int32} {W H : Nat → BW} {Y : Nat → Nat} (hn : n ≤ 2000) (K : ∀ Q : Nat → Nat, (∀ j, j < ((n + 8) / 64 + 1) * 64 - 8 → Q j = pb P n j) → (∀ j, Q j < 256) → j_V g κ 0 0 38 [(0, .ref o), (1, .int (nI n)), (2, .int (nI (((n + 8) / 64 + 1) * 64 - 8)))] [] ([(o, .inr (6, mo a sz le ib mn pl at_ wr wh db)), (a 15, .inl (aI g, 2112, .inl (nf Q))), (a 16, .inl (aI g, 32, .inl (nf D))), (a 17, .inl (aJ g, 64, .inr (.inl (lf64 (bn cK))))), (a 18, .inl (aJ g, 8, .inr (.inl (lf64 (bn cH))))), (a 19, .inl (aJ g, 64, .inr (.inl (lf64 (bn W))))), (a 20, .inl (aJ g, 8, .inr (.inl (lf64 (bn H))))), (a 22, .inl (aJ g, 10, .inr (.inl (lf64 Y))))])) (C : j_C g κ b_Mod_digestOf R_Mod rm_Mod_digestOf 4) : ∀ (k : Nat) (i : Nat) (Q : Nat → Nat), n < i → i ≤ ((n + 8) / 64 + 1) * 64 - 8 → ((n + 8) / 64 + 1) * 64 ≤ i + k → (∀ j, j < i → Q j = pb P n j) → (∀ j, Q j < 256) → j_V g κ (0) (0) 15 [(0, .ref o), (1, .int (nI n)), (2, .int (nI i))] [] ([(o, .inr (6, mo a sz le ib mn pl at_ wr wh db)), (a 15, .inl (aI g, 2112, .inl (nf Q))), (a 16, .inl (aI g, 32, .inl (nf D))), (a 17, .inl (aJ g, 64, .inr (.inl (lf64 (bn cK))))), (a 18, .inl (aJ g, 8, .inr (.inl (lf64 (bn cH))))), (a 19, .inl (aJ g, 64, .inr (.inl (lf64 (bn W))))), (a 20, .inl (aJ g, 8, .inr (.inl (lf64 (bn H))))), (a 22, .inl (aJ g, 10, .inr (.inl (lf64 Y))))]) := by
  intro k
  induction k with
  | zero =>
    intro i Q hni hi hk hQ hQ2
    exfalso; omega
  | succ k ih =>
    intro i Q hni hi hk hQ hQ2
    refine j_iload_n (pc := 15) C d_Mod_digestOf_15 rfl 2 rfl ?_
    refine j_bipush (pc := 16) (v := nI 64) C d_Mod_digestOf_16 (by decide) ?_
    refine j_iremN (pc := 18) C (by omega) (by omega) (by omega) d_Mod_digestOf_18 ?_
    refine j_bipush (pc := 19) (v := nI 56) C d_Mod_digestOf_19 (by decide) ?_
    refine j_icmp_eqN (pc := 21) (tgt := 38) C (by omega) (by omega) d_Mod_digestOf_21 rfl (fun c21 => ?_) (fun c21 => ?_)
    · skip
      obtain rfl : i = ((n + 8) / 64 + 1) * 64 - 8 := by omega
      exact j_lv [0, 1, 2] rfl (K Q hQ hQ2)
    · skip
      refine j_aload_n (pc := 24) C d_Mod_digestOf_24 rfl 0 rfl ?_
      refine j_get (pc := 25) C F_Mod_59 0 rfl rfl d_Mod_digestOf_25 ?_
      refine j_iload_n (pc := 28) C d_Mod_digestOf_28 rfl 2 rfl ?_
      refine j_iconst (pc := 29) (v := nI 0) C d_Mod_digestOf_29 (by decide) ?_
      refine j_iastB (pc := 30) (ws' := [(o, .inr (6, mo a sz le ib mn pl at_ wr wh db)), (a 15, .inl (aI g, 2112, .inl (nf (va_up Q i 0)))), (a 16, .inl (aI g, 32, .inl (nf D))), (a 17, .inl (aJ g, 64, .inr (.inl (lf64 (bn cK))))), (a 18, .inl (aJ g, 8, .inr (.inl (lf64 (bn cH))))), (a 19, .inl (aJ g, 64, .inr (.inl (lf64 (bn W))))), (a 20, .inl (aJ g, 8, .inr (.inl (lf64 (bn H))))), (a 22, .inl (aJ g, 10, .inr (.inl (lf64 Y))))]) C 1 1 rfl rfl (by omega) (by omega) rfl d_Mod_digestOf_30 ?_
      refine j_iload_n (pc := 31) C d_Mod_digestOf_31 rfl 2 rfl ?_
      refine j_iconst (pc := 32) (v := nI 1) C d_Mod_digestOf_32 (by decide) ?_
      refine j_iaddN (pc := 33) C d_Mod_digestOf_33 ?_
      refine j_istore_n (pc := 34) (lv' := [(2, .int (nI (i + 1))), (0, .ref o), (1, .int (nI n))]) C d_Mod_digestOf_34 rfl (by decide) rfl ?_
      refine j_goto (pc := 35) (tgt := 15) C d_Mod_digestOf_35 rfl ?_
      refine j_lv (lv' := [(0, .ref o), (1, .int (nI n)), (2, .int (nI (i + 1)))]) [1, 2, 0] rfl ?_
      exact ih (i + 1) _ (by omega) (by omega) (by omega) (up_s hQ (pb_z (by omega) (by omega)).symm) (up_lt hQ2 (by decide))
set_option maxHeartbeats 4000000 in
set_option maxRecDepth 100000 in
theorem lp_dl {g : JX} {κ : JK} {o n : Nat} {a : Nat → Nat} {P D : Nat → Nat} {sz le ib mn pl at_ wr wh db : Int32} {W H : Nat → BW} {Y : Nat → Nat} (hn : n ≤ 2000) (K : ∀ Q : Nat → Nat, (∀ j, j < ((n + 8) / 64 + 1) * 64 → Q j = pb P n j) → (∀ j, Q j < 256) → j_V g κ 0 0 79 [(0, .ref o), (1, .int (nI n)), (2, .int (nI (((n + 8) / 64 + 1) * 64 - 8))), (3, .int (nI 8))] [] ([(o, .inr (6, mo a sz le ib mn pl at_ wr wh db)), (a 15, .inl (aI g, 2112, .inl (nf Q))), (a 16, .inl (aI g, 32, .inl (nf D))), (a 17, .inl (aJ g, 64, .inr (.inl (lf64 (bn cK))))), (a 18, .inl (aJ g, 8, .inr (.inl (lf64 (bn cH))))), (a 19, .inl (aJ g, 64, .inr (.inl (lf64 (bn W))))), (a 20, .inl (aJ g, 8, .inr (.inl (lf64 (bn H))))), (a 22, .inl (aJ g, 10, .inr (.inl (lf64 Y))))])) (C : j_C g κ b_Mod_digestOf R_Mod rm_Mod_digestOf 4) : ∀ (k : Nat) (m : Nat) (Q : Nat → Nat), m ≤ 8 → 8 + 1 ≤ m + k → (∀ j, j < ((n + 8) / 64 + 1) * 64 - 8 + m → Q j = pb P n j) → (∀ j, Q j < 256) → j_V g κ (0) (0) 40 [(0, .ref o), (1, .int (nI n)), (2, .int (nI (((n + 8) / 64 + 1) * 64 - 8))), (3, .int (nI m))] [] ([(o, .inr (6, mo a sz le ib mn pl at_ wr wh db)), (a 15, .inl (aI g, 2112, .inl (nf Q))), (a 16, .inl (aI g, 32, .inl (nf D))), (a 17, .inl (aJ g, 64, .inr (.inl (lf64 (bn cK))))), (a 18, .inl (aJ g, 8, .inr (.inl (lf64 (bn cH))))), (a 19, .inl (aJ g, 64, .inr (.inl (lf64 (bn W))))), (a 20, .inl (aJ g, 8, .inr (.inl (lf64 (bn H))))), (a 22, .inl (aJ g, 10, .inr (.inl (lf64 Y))))]) := by
  intro k
  induction k with
  | zero =>
    intro m Q hm hk hQ hQ2
    exfalso; omega
  | succ k ih =>
    intro m Q hm hk hQ hQ2
    refine j_iload_n (pc := 40) C d_Mod_digestOf_40 rfl 3 rfl ?_
    refine j_bipush (pc := 41) (v := nI 8) C d_Mod_digestOf_41 (by decide) ?_
    refine j_icmp_geN (pc := 43) (tgt := 79) C (by omega) (by omega) d_Mod_digestOf_43 rfl (fun c43 => ?_) (fun c43 => ?_)
    · skip
      obtain rfl : m = 8 := by omega
      exact j_lv [0, 1, 2, 3] rfl (K Q (fun j hj => hQ j (by omega)) hQ2)
    · skip
      refine j_aload_n (pc := 46) C d_Mod_digestOf_46 rfl 0 rfl ?_
      refine j_get (pc := 47) C F_Mod_59 0 rfl rfl d_Mod_digestOf_47 ?_
      refine j_iload_n (pc := 50) C d_Mod_digestOf_50 rfl 2 rfl ?_
      refine j_iload_n (pc := 51) C d_Mod_digestOf_51 rfl 3 rfl ?_
      refine j_iaddN (pc := 52) C d_Mod_digestOf_52 ?_
      refine j_ldc2 (pc := 53) C k_Mod_104 d_Mod_digestOf_53 ?_
      refine j_rwl (y := lN 8) (rfl) ?_
      refine j_iload_n (pc := 56) C d_Mod_digestOf_56 rfl 1 rfl ?_
      refine j_i2l (pc := 57) (v := lN n) C d_Mod_digestOf_57 (nI_l (by omega)) ?_
      refine j_lmulN (pc := 58) C d_Mod_digestOf_58 ?_
      refine j_bipush (pc := 59) (v := nI 56) C d_Mod_digestOf_59 (by decide) ?_
      refine j_bipush (pc := 61) (v := nI 8) C d_Mod_digestOf_61 (by decide) ?_
      refine j_iload_n (pc := 63) C d_Mod_digestOf_63 rfl 3 rfl ?_
      refine j_imulN (pc := 64) C d_Mod_digestOf_64 ?_
      refine j_isubN (pc := 65) C (by omega) d_Mod_digestOf_65 ?_
      refine j_lshr (pc := 66) (v := (lN (8 * n)) >>> ((nI (56 - (8 * m))).toInt64 &&& 63)) C d_Mod_digestOf_66 rfl ?_
      refine j_ldc2 (pc := 67) C k_Mod_106 d_Mod_digestOf_67 ?_
      refine j_rwl (y := lN 255) (rfl) ?_
      refine j_land (pc := 70) C d_Mod_digestOf_70 ?_
      refine j_rwl (y := lN (lb (lN (8 * n)) (7 - m))) (lsr_b2 _ (by omega) (by omega)) ?_
      refine j_l2i (pc := 71) (v := nI (lb (lN (8 * n)) (7 - m))) C d_Mod_digestOf_71 (lN_i _) ?_
      refine j_iastB (pc := 72) (ws' := [(o, .inr (6, mo a sz le ib mn pl at_ wr wh db)), (a 15, .inl (aI g, 2112, .inl (nf (va_up Q ((((n + 8) / 64 + 1) * 64 - 8) + m) (lb (lN (8 * n)) (7 - m)))))), (a 16, .inl (aI g, 32, .inl (nf D))), (a 17, .inl (aJ g, 64, .inr (.inl (lf64 (bn cK))))), (a 18, .inl (aJ g, 8, .inr (.inl (lf64 (bn cH))))), (a 19, .inl (aJ g, 64, .inr (.inl (lf64 (bn W))))), (a 20, .inl (aJ g, 8, .inr (.inl (lf64 (bn H))))), (a 22, .inl (aJ g, 10, .inr (.inl (lf64 Y))))]) C 1 1 rfl rfl (by omega) (by omega) rfl d_Mod_digestOf_72 ?_
      refine j_iinc (pc := 73) (k := 3) (v := nI (m + 1)) (lv' := [(3, .int (nI (m + 1))), (0, .ref o), (1, .int (nI n)), (2, .int (nI (((n + 8) / 64 + 1) * 64 - 8)))]) C d_Mod_digestOf_73 rfl (j_inc _ _) (by decide) rfl ?_
      refine j_goto (pc := 76) (tgt := 40) C d_Mod_digestOf_76 rfl ?_
      refine j_lv (lv' := [(0, .ref o), (1, .int (nI n)), (2, .int (nI (((n + 8) / 64 + 1) * 64 - 8))), (3, .int (nI (m + 1)))]) [1, 2, 3, 0] rfl ?_
      refine ih (m + 1) _ (by omega) (by omega) (fun j hj => up_s (i := ((n + 8) / 64 + 1) * 64 - 8 + m) hQ (pb_l (by omega) (by omega) (by omega)) j (by omega)) (up_lt hQ2 (lb_lt _ _))
set_option maxHeartbeats 4000000 in
set_option maxRecDepth 100000 in
theorem lp_dc {g : JX} {κ : JK} {o n : Nat} {a : Nat → Nat} {P D : Nat → Nat} {sz le ib mn pl at_ wr wh db : Int32} {Q : Nat → Nat} {W H : Nat → BW} {Y : Nat → Nat} (K : j_V g κ 0 0 110 [(0, .ref o), (1, .int (nI n)), (2, .int (nI (((n + 8) / 64 + 1) * 64))), (3, .int (nI 8))] [] ([(o, .inr (6, mo a sz le ib mn pl at_ wr wh db)), (a 15, .inl (aI g, 2112, .inl (nf Q))), (a 16, .inl (aI g, 32, .inl (nf D))), (a 17, .inl (aJ g, 64, .inr (.inl (lf64 (bn cK))))), (a 18, .inl (aJ g, 8, .inr (.inl (lf64 (bn cH))))), (a 19, .inl (aJ g, 64, .inr (.inl (lf64 (bn W))))), (a 20, .inl (aJ g, 8, .inr (.inl (lf64 (bn (cpW cH H 8)))))), (a 22, .inl (aJ g, 10, .inr (.inl (lf64 Y))))])) (C : j_C g κ b_Mod_digestOf R_Mod rm_Mod_digestOf 4) : ∀ (k : Nat) (i : Nat), i ≤ 8 → 8 + 1 ≤ i + k → j_V g κ (0) (0) 86 [(0, .ref o), (1, .int (nI n)), (2, .int (nI (((n + 8) / 64 + 1) * 64))), (3, .int (nI i))] [] ([(o, .inr (6, mo a sz le ib mn pl at_ wr wh db)), (a 15, .inl (aI g, 2112, .inl (nf Q))), (a 16, .inl (aI g, 32, .inl (nf D))), (a 17, .inl (aJ g, 64, .inr (.inl (lf64 (bn cK))))), (a 18, .inl (aJ g, 8, .inr (.inl (lf64 (bn cH))))), (a 19, .inl (aJ g, 64, .inr (.inl (lf64 (bn W))))), (a 20, .inl (aJ g, 8, .inr (.inl (lf64 (bn (cpW cH H i)))))), (a 22, .inl (aJ g, 10, .inr (.inl (lf64 Y))))]) := by
  intro k
  induction k with
  | zero =>
    intro i hi hk
    exfalso; omega
  | succ k ih =>
    intro i hi hk
    refine j_iload_n (pc := 86) C d_Mod_digestOf_86 rfl 3 rfl ?_
    refine j_bipush (pc := 87) (v := nI 8) C d_Mod_digestOf_87 (by decide) ?_
    refine j_icmp_geN (pc := 89) (tgt := 110) C (by omega) (by omega) d_Mod_digestOf_89 rfl (fun c89 => ?_) (fun c89 => ?_)
    · skip
      obtain rfl : i = 8 := by omega
      exact j_lv [0, 1, 2, 3] rfl K
    · skip
      refine j_aload_n (pc := 92) C d_Mod_digestOf_92 rfl 0 rfl ?_
      refine j_get (pc := 93) C F_Mod_75 0 rfl rfl d_Mod_digestOf_93 ?_
      refine j_iload_n (pc := 96) C d_Mod_digestOf_96 rfl 3 rfl ?_
      refine j_aload_n (pc := 97) C d_Mod_digestOf_97 rfl 0 rfl ?_
      refine j_get (pc := 98) C F_Mod_69 0 rfl rfl d_Mod_digestOf_98 ?_
      refine j_iload_n (pc := 101) C d_Mod_digestOf_101 rfl 3 rfl ?_
      refine j_laldN (pc := 102) C 4 3 rfl rfl (by omega) (by omega) d_Mod_digestOf_102 ?_
      refine j_lastW (pc := 103) (ws' := [(o, .inr (6, mo a sz le ib mn pl at_ wr wh db)), (a 15, .inl (aI g, 2112, .inl (nf Q))), (a 16, .inl (aI g, 32, .inl (nf D))), (a 17, .inl (aJ g, 64, .inr (.inl (lf64 (bn cK))))), (a 18, .inl (aJ g, 8, .inr (.inl (lf64 (bn cH))))), (a 19, .inl (aJ g, 64, .inr (.inl (lf64 (bn W))))), (a 20, .inl (aJ g, 8, .inr (.inl (lf64 (bn (va_up (cpW cH H i) i (cH i))))))), (a 22, .inl (aJ g, 10, .inr (.inl (lf64 Y))))]) C 6 3 rfl rfl (by omega) (by omega) rfl d_Mod_digestOf_103 ?_
      refine j_iinc (pc := 104) (k := 3) (v := nI (i + 1)) (lv' := [(3, .int (nI (i + 1))), (0, .ref o), (1, .int (nI n)), (2, .int (nI (((n + 8) / 64 + 1) * 64)))]) C d_Mod_digestOf_104 rfl (j_inc _ _) (by decide) rfl ?_
      refine j_goto (pc := 107) (tgt := 86) C d_Mod_digestOf_107 rfl ?_
      refine j_lv (lv' := [(0, .ref o), (1, .int (nI n)), (2, .int (nI (((n + 8) / 64 + 1) * 64))), (3, .int (nI (i + 1)))]) [1, 2, 3, 0] rfl ?_
      rw [cpW_s]
      exact ih (i + 1) (by omega) (by omega)
set_option maxHeartbeats 4000000 in
set_option maxRecDepth 100000 in
theorem lp_db {g : JX} {κ : JK} {o n : Nat} {a : Nat → Nat} {P D : Nat → Nat} {sz le ib mn pl at_ wr wh db : Int32} {Q : Nat → Nat} (hn : n ≤ 2000) (hQ2 : ∀ j, Q j < 256) (K : ∀ (W H : Nat → BW) (Y : Nat → Nat), (∀ j, j < 8 → H j = dgN Q ((n + 8) / 64 + 1) j) → j_V g κ 0 0 130 [(0, .ref o), (1, .int (nI n)), (2, .int (nI (((n + 8) / 64 + 1) * 64))), (3, .int (nI (((n + 8) / 64 + 1) * 64)))] [] ([(o, .inr (6, mo a sz le ib mn pl at_ wr wh db)), (a 15, .inl (aI g, 2112, .inl (nf Q))), (a 16, .inl (aI g, 32, .inl (nf D))), (a 17, .inl (aJ g, 64, .inr (.inl (lf64 (bn cK))))), (a 18, .inl (aJ g, 8, .inr (.inl (lf64 (bn cH))))), (a 19, .inl (aJ g, 64, .inr (.inl (lf64 (bn W))))), (a 20, .inl (aJ g, 8, .inr (.inl (lf64 (bn H))))), (a 22, .inl (aJ g, 10, .inr (.inl (lf64 Y))))])) (C : j_C g κ b_Mod_digestOf R_Mod rm_Mod_digestOf 4) : ∀ (k : Nat) (c : Nat) (W H : Nat → BW) (Y : Nat → Nat), c ≤ (n + 8) / 64 + 1 → (n + 8) / 64 + 2 ≤ c + k → (∀ j, j < 8 → H j = dgN Q c j) → j_V g κ (0) (0) 112 [(0, .ref o), (1, .int (nI n)), (2, .int (nI (((n + 8) / 64 + 1) * 64))), (3, .int (nI (c * 64)))] [] ([(o, .inr (6, mo a sz le ib mn pl at_ wr wh db)), (a 15, .inl (aI g, 2112, .inl (nf Q))), (a 16, .inl (aI g, 32, .inl (nf D))), (a 17, .inl (aJ g, 64, .inr (.inl (lf64 (bn cK))))), (a 18, .inl (aJ g, 8, .inr (.inl (lf64 (bn cH))))), (a 19, .inl (aJ g, 64, .inr (.inl (lf64 (bn W))))), (a 20, .inl (aJ g, 8, .inr (.inl (lf64 (bn H))))), (a 22, .inl (aJ g, 10, .inr (.inl (lf64 Y))))]) := by
  intro k
  induction k with
  | zero =>
    intro c W H Y hc hk hH
    exfalso; omega
  | succ k ih =>
    intro c W H Y hc hk hH
    refine j_iload_n (pc := 112) C d_Mod_digestOf_112 rfl 3 rfl ?_
    refine j_iload_n (pc := 113) C d_Mod_digestOf_113 rfl 2 rfl ?_
    refine j_icmp_geN (pc := 114) (tgt := 130) C (by omega) (by omega) d_Mod_digestOf_114 rfl (fun c114 => ?_) (fun c114 => ?_)
    · skip
      obtain rfl : c = (n + 8) / 64 + 1 := by omega
      exact j_lv [0, 1, 2, 3] rfl (K W H Y hH)
    · skip
      refine j_aload_n (pc := 117) C d_Mod_digestOf_117 rfl 0 rfl ?_
      refine j_iload_n (pc := 118) C d_Mod_digestOf_118 rfl 3 rfl ?_
      refine j_callV (pc := 119) (As := [.int (nI (c * 64))]) (rest := []) (wc := [(o, .inr (6, mo a sz le ib mn pl at_ wr wh db)), (a 15, .inl (aI g, 2112, .inl (nf Q))), (a 17, .inl (aJ g, 64, .inr (.inl (lf64 (bn cK))))), (a 19, .inl (aJ g, 64, .inr (.inl (lf64 (bn W))))), (a 20, .inl (aJ g, 8, .inr (.inl (lf64 (bn H))))), (a 22, .inl (aJ g, 10, .inr (.inl (lf64 Y))))]) (wr := [(a 16, .inl (aI g, 32, .inl (nf D))), (a 18, .inl (aJ g, 8, .inr (.inl (lf64 (bn cH)))))]) C (c_Mod_block (kl κ) g o a c Q W H Y sz le ib mn pl at_ wr wh db hQ2 (by omega)) Y_Mod_block ml_Mod_108 im_Mod_block sl_Mod_block rfl ⟨by decide, by decide⟩ rfl (ci := 6) (q0 := 0) rfl rfl rfl (Nat.le_of_ble_eq_true rfl) (j_sb [0, 1, 3, 5, 6, 7, 2, 4] rfl rfl) rfl d_Mod_digestOf_119 (fun r w1 hO => ?_)
      obtain ⟨W1, H1, Y1, rfl, rfl, hB1⟩ := hO
      show j_V g κ 0 0 122 [(0, .ref o), (1, .int (nI n)), (2, .int (nI (((n + 8) / 64 + 1) * 64))), (3, .int (nI (c * 64)))] [] ([(o, .inr (6, mo a sz le ib mn pl at_ wr wh db)), (a 15, .inl (aI g, 2112, .inl (nf Q))), (a 17, .inl (aJ g, 64, .inr (.inl (lf64 (bn cK))))), (a 19, .inl (aJ g, 64, .inr (.inl (lf64 (bn W1))))), (a 20, .inl (aJ g, 8, .inr (.inl (lf64 (bn H1))))), (a 22, .inl (aJ g, 10, .inr (.inl (lf64 Y1)))), (a 16, .inl (aI g, 32, .inl (nf D))), (a 18, .inl (aJ g, 8, .inr (.inl (lf64 (bn cH)))))])
      refine j_iload_n (pc := 122) C d_Mod_digestOf_122 rfl 3 rfl ?_
      refine j_bipush (pc := 123) (v := nI 64) C d_Mod_digestOf_123 (by decide) ?_
      refine j_iaddN (pc := 125) C d_Mod_digestOf_125 ?_
      refine j_istore_n (pc := 126) (lv' := [(3, .int (nI ((c * 64) + 64))), (0, .ref o), (1, .int (nI n)), (2, .int (nI (((n + 8) / 64 + 1) * 64)))]) C d_Mod_digestOf_126 rfl (by decide) rfl ?_
      refine j_goto (pc := 127) (tgt := 112) C d_Mod_digestOf_127 rfl ?_
      refine j_lv (lv' := [(0, .ref o), (1, .int (nI n)), (2, .int (nI (((n + 8) / 64 + 1) * 64))), (3, .int (nI ((c * 64) + 64)))]) [1, 2, 3, 0] rfl ?_
      refine j_sub (ws' := [(o, .inr (6, mo a sz le ib mn pl at_ wr wh db)), (a 15, .inl (aI g, 2112, .inl (nf Q))), (a 16, .inl (aI g, 32, .inl (nf D))), (a 17, .inl (aJ g, 64, .inr (.inl (lf64 (bn cK))))), (a 18, .inl (aJ g, 8, .inr (.inl (lf64 (bn cH))))), (a 19, .inl (aJ g, 64, .inr (.inl (lf64 (bn W1))))), (a 20, .inl (aJ g, 8, .inr (.inl (lf64 (bn H1))))), (a 22, .inl (aJ g, 10, .inr (.inl (lf64 Y1))))]) (j_sb [0, 1, 6, 2, 7, 3, 4, 5] rfl rfl) ?_
      have e := ih (c + 1) W1 H1 Y1 (by omega) (by omega) (dg_blk (P := Q) hH hB1)
      rw [show (c + 1) * 64 = c * 64 + 64 by omega] at e
      exact e
set_option maxHeartbeats 4000000 in
set_option maxRecDepth 100000 in
theorem lp_do {g : JX} {κ : JK} {o n : Nat} {a : Nat → Nat} {P D : Nat → Nat} {sz le ib mn pl at_ wr wh db : Int32} {Q : Nat → Nat} {W H : Nat → BW} {Y : Nat → Nat} (hH : ∀ j, j < 8 → H j = dW P n j) (C : j_C g κ b_Mod_digestOf R_Mod rm_Mod_digestOf 4) (hR : j_R g κ b_Mod_digestOf none (fun r w => r = none ∧ w = [(o, .inr (6, mo a sz le ib mn pl at_ wr wh db)), (a 15, .inl (aI g, 2112, .inl (nf Q))), (a 16, .inl (aI g, 32, .inl (nf (cpT (dB P n) D 32)))), (a 17, .inl (aJ g, 64, .inr (.inl (lf64 (bn cK))))), (a 18, .inl (aJ g, 8, .inr (.inl (lf64 (bn cH))))), (a 19, .inl (aJ g, 64, .inr (.inl (lf64 (bn W))))), (a 20, .inl (aJ g, 8, .inr (.inl (lf64 (bn H))))), (a 22, .inl (aJ g, 10, .inr (.inl (lf64 Y))))]) 0 0) : ∀ (k : Nat) (i : Nat), i ≤ 32 → 32 + 1 ≤ i + k → j_V g κ (0) (0) 132 [(0, .ref o), (1, .int (nI n)), (2, .int (nI (((n + 8) / 64 + 1) * 64))), (3, .int (nI i))] [] ([(o, .inr (6, mo a sz le ib mn pl at_ wr wh db)), (a 15, .inl (aI g, 2112, .inl (nf Q))), (a 16, .inl (aI g, 32, .inl (nf (cpT (dB P n) D i)))), (a 17, .inl (aJ g, 64, .inr (.inl (lf64 (bn cK))))), (a 18, .inl (aJ g, 8, .inr (.inl (lf64 (bn cH))))), (a 19, .inl (aJ g, 64, .inr (.inl (lf64 (bn W))))), (a 20, .inl (aJ g, 8, .inr (.inl (lf64 (bn H))))), (a 22, .inl (aJ g, 10, .inr (.inl (lf64 Y))))]) := by
  intro k
  induction k with
  | zero =>
    intro i hi hk
    exfalso; omega
  | succ k ih =>
    intro i hi hk
    refine j_iload_n (pc := 132) C d_Mod_digestOf_132 rfl 3 rfl ?_
    refine j_bipush (pc := 133) (v := nI 32) C d_Mod_digestOf_133 (by decide) ?_
    refine j_icmp_geN (pc := 135) (tgt := 173) C (by omega) (by omega) d_Mod_digestOf_135 rfl (fun c135 => ?_) (fun c135 => ?_)
    · skip
      exact hR.2.2 _ _ _ d_Mod_digestOf_173 rfl (⟨rfl, by rw [show i = 32 by omega]⟩)
    · skip
      refine j_aload_n (pc := 138) C d_Mod_digestOf_138 rfl 0 rfl ?_
      refine j_get (pc := 139) C F_Mod_62 0 rfl rfl d_Mod_digestOf_139 ?_
      refine j_iload_n (pc := 142) C d_Mod_digestOf_142 rfl 3 rfl ?_
      refine j_aload_n (pc := 143) C d_Mod_digestOf_143 rfl 0 rfl ?_
      refine j_get (pc := 144) C F_Mod_75 0 rfl rfl d_Mod_digestOf_144 ?_
      refine j_iload_n (pc := 147) C d_Mod_digestOf_147 rfl 3 rfl ?_
      refine j_iconst (pc := 148) (v := nI 4) C d_Mod_digestOf_148 (by decide) ?_
      refine j_idivN (pc := 149) C (by omega) (by omega) (by omega) d_Mod_digestOf_149 ?_
      refine j_laldN (pc := 150) C 6 3 rfl rfl (by omega) (by omega) d_Mod_digestOf_150 ?_
      refine j_bipush (pc := 151) (v := nI 24) C d_Mod_digestOf_151 (by decide) ?_
      refine j_bipush (pc := 153) (v := nI 8) C d_Mod_digestOf_153 (by decide) ?_
      refine j_iload_n (pc := 155) C d_Mod_digestOf_155 rfl 3 rfl ?_
      refine j_iconst (pc := 156) (v := nI 4) C d_Mod_digestOf_156 (by decide) ?_
      refine j_iremN (pc := 157) C (by omega) (by omega) (by omega) d_Mod_digestOf_157 ?_
      refine j_imulN (pc := 158) C d_Mod_digestOf_158 ?_
      refine j_isubN (pc := 159) C (by omega) d_Mod_digestOf_159 ?_
      refine j_lshr (pc := 160) (v := (lN (H (i / 4)).toNat) >>> ((nI (24 - (8 * (i % 4)))).toInt64 &&& 63)) C d_Mod_digestOf_160 rfl ?_
      refine j_ldc2 (pc := 161) C k_Mod_106 d_Mod_digestOf_161 ?_
      refine j_rwl (y := lN 255) (rfl) ?_
      refine j_land (pc := 164) C d_Mod_digestOf_164 ?_
      refine j_rwl (y := lN (dB P n i)) (by rw [lsr_b2 (k := 24 - 8 * (i % 4)) (i := 3 - i % 4) _ (by omega) (by omega)]; exact congrArg lN ((wB_v H i).trans (wB_cg hH (by omega)))) ?_
      refine j_l2i (pc := 165) (v := nI (dB P n i)) C d_Mod_digestOf_165 (lN_i _) ?_
      refine j_iastB (pc := 166) (ws' := [(o, .inr (6, mo a sz le ib mn pl at_ wr wh db)), (a 15, .inl (aI g, 2112, .inl (nf Q))), (a 16, .inl (aI g, 32, .inl (nf (va_up (cpT (dB P n) D i) i (dB P n i))))), (a 17, .inl (aJ g, 64, .inr (.inl (lf64 (bn cK))))), (a 18, .inl (aJ g, 8, .inr (.inl (lf64 (bn cH))))), (a 19, .inl (aJ g, 64, .inr (.inl (lf64 (bn W))))), (a 20, .inl (aJ g, 8, .inr (.inl (lf64 (bn H))))), (a 22, .inl (aJ g, 10, .inr (.inl (lf64 Y))))]) C 2 1 rfl rfl (by omega) (by omega) rfl d_Mod_digestOf_166 ?_
      refine j_iinc (pc := 167) (k := 3) (v := nI (i + 1)) (lv' := [(3, .int (nI (i + 1))), (0, .ref o), (1, .int (nI n)), (2, .int (nI (((n + 8) / 64 + 1) * 64)))]) C d_Mod_digestOf_167 rfl (j_inc _ _) (by decide) rfl ?_
      refine j_goto (pc := 170) (tgt := 132) C d_Mod_digestOf_170 rfl ?_
      refine j_lv (lv' := [(0, .ref o), (1, .int (nI n)), (2, .int (nI (((n + 8) / 64 + 1) * 64))), (3, .int (nI (i + 1)))]) [1, 2, 3, 0] rfl ?_
      rw [cpT_s]
      exact ih (i + 1) (by omega) (by omega)
set_option maxHeartbeats 4000000 in
set_option maxRecDepth 100000 in
theorem c_Mod_digestOf (l : Launch) (g : JX) (o : Nat) (a : Nat → Nat) (n : Nat) (P D : Nat → Nat) (W H : Nat → BW) (Y : Nat → Nat) (sz le ib mn pl at_ wr wh db : Int32) (hn : n ≤ 2000) (hP : ∀ j, P j < 256) : j_Ct l y_Mod_digestOf b_Mod_digestOf 4 none rm_Mod_digestOf g ([(o, .inr (6, mo a sz le ib mn pl at_ wr wh db)), (a 15, .inl (aI g, 2112, .inl (nf P))), (a 16, .inl (aI g, 32, .inl (nf D))), (a 17, .inl (aJ g, 64, .inr (.inl (lf64 (bn cK))))), (a 18, .inl (aJ g, 8, .inr (.inl (lf64 (bn cH))))), (a 19, .inl (aJ g, 64, .inr (.inl (lf64 (bn W))))), (a 20, .inl (aJ g, 8, .inr (.inl (lf64 (bn H))))), (a 22, .inl (aJ g, 10, .inr (.inl (lf64 Y))))]) [.ref o, .int (nI n)] (fun r w => ∃ (Q1 : Nat → Nat) (W1 H1 : Nat → BW) (Y1 : Nat → Nat), r = none ∧ w = [(o, .inr (6, mo a sz le ib mn pl at_ wr wh db)), (a 15, .inl (aI g, 2112, .inl (nf Q1))), (a 16, .inl (aI g, 32, .inl (nf (cpT (dB P n) D 32)))), (a 17, .inl (aJ g, 64, .inr (.inl (lf64 (bn cK))))), (a 18, .inl (aJ g, 8, .inr (.inl (lf64 (bn cH))))), (a 19, .inl (aJ g, 64, .inr (.inl (lf64 (bn W1))))), (a 20, .inl (aJ g, 8, .inr (.inl (lf64 (bn H1))))), (a 22, .inl (aJ g, 10, .inr (.inl (lf64 Y1))))] ∧ ∀ j, Q1 j < 256) 0 0 := by
  refine j_ct (by decide) (Nat.le_of_ble_eq_true rfl) (fun κ hkl C hR hI => ?_)
  show j_V g κ 0 0 0 [(0, .ref o), (1, .int (nI n))] [] ([(o, .inr (6, mo a sz le ib mn pl at_ wr wh db)), (a 15, .inl (aI g, 2112, .inl (nf P))), (a 16, .inl (aI g, 32, .inl (nf D))), (a 17, .inl (aJ g, 64, .inr (.inl (lf64 (bn cK))))), (a 18, .inl (aJ g, 8, .inr (.inl (lf64 (bn cH))))), (a 19, .inl (aJ g, 64, .inr (.inl (lf64 (bn W))))), (a 20, .inl (aJ g, 8, .inr (.inl (lf64 (bn H))))), (a 22, .inl (aJ g, 10, .inr (.inl (lf64 Y))))])
  refine j_iload_n (pc := 0) C d_Mod_digestOf_0 rfl 1 rfl ?_
  refine j_istore_n (pc := 1) (lv' := [(2, .int (nI n)), (0, .ref o), (1, .int (nI n))]) C d_Mod_digestOf_1 rfl (by decide) rfl ?_
  refine j_aload_n (pc := 2) C d_Mod_digestOf_2 rfl 1 rfl ?_
  refine j_get (pc := 3) C F_Mod_59 0 rfl rfl d_Mod_digestOf_3 ?_
  refine j_iload_n (pc := 6) C d_Mod_digestOf_6 rfl 0 rfl ?_
  refine j_sipush (pc := 7) (v := nI 128) C d_Mod_digestOf_7 (by decide) ?_
  refine j_iastB (pc := 10) (ws' := [(o, .inr (6, mo a sz le ib mn pl at_ wr wh db)), (a 15, .inl (aI g, 2112, .inl (nf (va_up P n 128)))), (a 16, .inl (aI g, 32, .inl (nf D))), (a 17, .inl (aJ g, 64, .inr (.inl (lf64 (bn cK))))), (a 18, .inl (aJ g, 8, .inr (.inl (lf64 (bn cH))))), (a 19, .inl (aJ g, 64, .inr (.inl (lf64 (bn W))))), (a 20, .inl (aJ g, 8, .inr (.inl (lf64 (bn H))))), (a 22, .inl (aJ g, 10, .inr (.inl (lf64 Y))))]) C 1 1 rfl rfl (by omega) (by omega) rfl d_Mod_digestOf_10 ?_
  refine j_iload_n (pc := 11) C d_Mod_digestOf_11 rfl 0 rfl ?_
  refine j_iconst (pc := 12) (v := nI 1) C d_Mod_digestOf_12 (by decide) ?_
  refine j_iaddN (pc := 13) C d_Mod_digestOf_13 ?_
  refine j_istore_n (pc := 14) (lv' := [(2, .int (nI (n + 1))), (0, .ref o), (1, .int (nI n))]) C d_Mod_digestOf_14 rfl (by decide) rfl ?_
  refine j_lv (lv' := [(0, .ref o), (1, .int (nI n)), (2, .int (nI (n + 1)))]) [1, 2, 0] rfl ?_
  refine lp_dz (o := o) (n := n) (a := a) (P := P) (D := D) (sz := sz) (le := le) (ib := ib) (mn := mn) (pl := pl) (at_ := at_) (wr := wr) (wh := wh) (db := db) (W := W) (H := H) (Y := Y) hn (fun Q1 hQ1 hQ2 => ?_) C (((n + 8) / 64 + 1) * 64) (n + 1) _ (by omega) (by omega) (by omega) (up_s (fun j hj => (pb_1 hj).symm) (pb_2 rfl).symm) (up_lt hP (by decide))
  show j_V g κ 0 0 38 [(0, .ref o), (1, .int (nI n)), (2, .int (nI (((n + 8) / 64 + 1) * 64 - 8)))] [] ([(o, .inr (6, mo a sz le ib mn pl at_ wr wh db)), (a 15, .inl (aI g, 2112, .inl (nf Q1))), (a 16, .inl (aI g, 32, .inl (nf D))), (a 17, .inl (aJ g, 64, .inr (.inl (lf64 (bn cK))))), (a 18, .inl (aJ g, 8, .inr (.inl (lf64 (bn cH))))), (a 19, .inl (aJ g, 64, .inr (.inl (lf64 (bn W))))), (a 20, .inl (aJ g, 8, .inr (.inl (lf64 (bn H))))), (a 22, .inl (aJ g, 10, .inr (.inl (lf64 Y))))])
  refine j_iconst (pc := 38) (v := nI 0) C d_Mod_digestOf_38 (by decide) ?_
  refine j_istore_n (pc := 39) (lv' := [(3, .int (nI 0)), (0, .ref o), (1, .int (nI n)), (2, .int (nI (((n + 8) / 64 + 1) * 64 - 8)))]) C d_Mod_digestOf_39 rfl (by decide) rfl ?_
  refine j_lv (lv' := [(0, .ref o), (1, .int (nI n)), (2, .int (nI (((n + 8) / 64 + 1) * 64 - 8))), (3, .int (nI 0))]) [1, 2, 3, 0] rfl ?_
  refine lp_dl (o := o) (n := n) (a := a) (P := P) (D := D) (sz := sz) (le := le) (ib := ib) (mn := mn) (pl := pl) (at_ := at_) (wr := wr) (wh := wh) (db := db) (W := W) (H := H) (Y := Y) hn (fun Q2 hQ3 hQ4 => ?_) C 9 0 _ (by omega) (by omega) (fun j hj => hQ1 j hj) hQ2
  show j_V g κ 0 0 79 [(0, .ref o), (1, .int (nI n)), (2, .int (nI (((n + 8) / 64 + 1) * 64 - 8))), (3, .int (nI 8))] [] ([(o, .inr (6, mo a sz le ib mn pl at_ wr wh db)), (a 15, .inl (aI g, 2112, .inl (nf Q2))), (a 16, .inl (aI g, 32, .inl (nf D))), (a 17, .inl (aJ g, 64, .inr (.inl (lf64 (bn cK))))), (a 18, .inl (aJ g, 8, .inr (.inl (lf64 (bn cH))))), (a 19, .inl (aJ g, 64, .inr (.inl (lf64 (bn W))))), (a 20, .inl (aJ g, 8, .inr (.inl (lf64 (bn H))))), (a 22, .inl (aJ g, 10, .inr (.inl (lf64 Y))))])
  refine j_iload_n (pc := 79) C d_Mod_digestOf_79 rfl 2 rfl ?_
  refine j_bipush (pc := 80) (v := nI 8) C d_Mod_digestOf_80 (by decide) ?_
  refine j_iaddN (pc := 82) C d_Mod_digestOf_82 ?_
  refine j_rwi (y := nI (((n + 8) / 64 + 1) * 64)) (by congr 1; omega) ?_
  refine j_istore_n (pc := 83) (lv' := [(2, .int (nI (((n + 8) / 64 + 1) * 64))), (0, .ref o), (1, .int (nI n)), (3, .int (nI 8))]) C d_Mod_digestOf_83 rfl (by decide) rfl ?_
  refine j_iconst (pc := 84) (v := nI 0) C d_Mod_digestOf_84 (by decide) ?_
  refine j_istore_n (pc := 85) (lv' := [(3, .int (nI 0)), (2, .int (nI (((n + 8) / 64 + 1) * 64))), (0, .ref o), (1, .int (nI n))]) C d_Mod_digestOf_85 rfl (by decide) rfl ?_
  refine j_lv (lv' := [(0, .ref o), (1, .int (nI n)), (2, .int (nI (((n + 8) / 64 + 1) * 64))), (3, .int (nI 0))]) [2, 3, 1, 0] rfl ?_
  have e := lp_dc (Q := Q2) (o := o) (n := n) (a := a) (P := P) (D := D) (sz := sz) (le := le) (ib := ib) (mn := mn) (pl := pl) (at_ := at_) (wr := wr) (wh := wh) (db := db) (W := W) (H := H) (Y := Y) ?_ C 9 0 (by omega) (by omega)
  rw [cpW_0] at e
  exact e
  show j_V g κ 0 0 110 [(0, .ref o), (1, .int (nI n)), (2, .int (nI (((n + 8) / 64 + 1) * 64))), (3, .int (nI 8))] [] ([(o, .inr (6, mo a sz le ib mn pl at_ wr wh db)), (a 15, .inl (aI g, 2112, .inl (nf Q2))), (a 16, .inl (aI g, 32, .inl (nf D))), (a 17, .inl (aJ g, 64, .inr (.inl (lf64 (bn cK))))), (a 18, .inl (aJ g, 8, .inr (.inl (lf64 (bn cH))))), (a 19, .inl (aJ g, 64, .inr (.inl (lf64 (bn W))))), (a 20, .inl (aJ g, 8, .inr (.inl (lf64 (bn (cpW cH H 8)))))), (a 22, .inl (aJ g, 10, .inr (.inl (lf64 Y))))])
  refine j_iconst (pc := 110) (v := nI 0) C d_Mod_digestOf_110 (by decide) ?_
  refine j_istore_n (pc := 111) (lv' := [(3, .int (nI 0)), (0, .ref o), (1, .int (nI n)), (2, .int (nI (((n + 8) / 64 + 1) * 64)))]) C d_Mod_digestOf_111 rfl (by decide) rfl ?_
  refine j_lv (lv' := [(0, .ref o), (1, .int (nI n)), (2, .int (nI (((n + 8) / 64 + 1) * 64))), (3, .int (nI 0))]) [1, 2, 3, 0] rfl ?_
  have e := lp_db (Q := Q2) (o := o) (n := n) (a := a) (P := P) (D := D) (sz := sz) (le := le) (ib := ib) (mn := mn) (pl := pl) (at_ := at_) (wr := wr) (wh := wh) (db := db) hn hQ4 (fun W1 H1 Y1 hH1 => ?_) C ((n + 8) / 64 + 2) 0 W (cpW cH H 8) Y (by omega) (by omega) (fun j hj => by unfold cpW; rw [if_pos hj]; rfl)
  rw [Nat.zero_mul] at e
  exact e
  show j_V g κ 0 0 130 [(0, .ref o), (1, .int (nI n)), (2, .int (nI (((n + 8) / 64 + 1) * 64))), (3, .int (nI (((n + 8) / 64 + 1) * 64)))] [] ([(o, .inr (6, mo a sz le ib mn pl at_ wr wh db)), (a 15, .inl (aI g, 2112, .inl (nf Q2))), (a 16, .inl (aI g, 32, .inl (nf D))), (a 17, .inl (aJ g, 64, .inr (.inl (lf64 (bn cK))))), (a 18, .inl (aJ g, 8, .inr (.inl (lf64 (bn cH))))), (a 19, .inl (aJ g, 64, .inr (.inl (lf64 (bn W1))))), (a 20, .inl (aJ g, 8, .inr (.inl (lf64 (bn H1))))), (a 22, .inl (aJ g, 10, .inr (.inl (lf64 Y1))))])
  refine j_iconst (pc := 130) (v := nI 0) C d_Mod_digestOf_130 (by decide) ?_
  refine j_istore_n (pc := 131) (lv' := [(3, .int (nI 0)), (0, .ref o), (1, .int (nI n)), (2, .int (nI (((n + 8) / 64 + 1) * 64)))]) C d_Mod_digestOf_131 rfl (by decide) rfl ?_
  refine j_lv (lv' := [(0, .ref o), (1, .int (nI n)), (2, .int (nI (((n + 8) / 64 + 1) * 64))), (3, .int (nI 0))]) [1, 2, 3, 0] rfl ?_
  have e := lp_do (Q := Q2) (W := W1) (H := H1) (Y := Y1) (o := o) (n := n) (a := a) (P := P) (D := D) (sz := sz) (le := le) (ib := ib) (mn := mn) (pl := pl) (at_ := at_) (wr := wr) (wh := wh) (db := db) (fun j hj => by rw [hH1 j hj]; unfold dW; rw [dgN_cg _ (fun i hi => hQ3 i (by omega))]) C (j_R_mono hR (fun r w h => ⟨Q2, W1, H1, Y1, h.1, h.2, hQ4⟩)) 33 0 (by omega) (by omega)
  rw [cpT_0] at e
  exact e
abbrev rm_Mod_twice : Room := { frames := 3, cells := 0, slots := 0, locals := 76 }
set_option maxHeartbeats 4000000 in
set_option maxRecDepth 100000 in
theorem lp_tw {g : JX} {κ : JK} {o n : Nat} {a : Nat → Nat} {Q D : Nat → Nat} {W H : Nat → BW} {Y : Nat → Nat} {sz le ib mn pl at_ wr wh db : Int32} (K : j_V g κ 0 0 31 [(0, .ref o), (1, .int (nI n)), (2, .int (nI 32))] [] ([(o, .inr (6, mo a sz le ib mn pl at_ wr wh db)), (a 15, .inl (aI g, 2112, .inl (nf (cpT D Q 32)))), (a 16, .inl (aI g, 32, .inl (nf D))), (a 17, .inl (aJ g, 64, .inr (.inl (lf64 (bn cK))))), (a 18, .inl (aJ g, 8, .inr (.inl (lf64 (bn cH))))), (a 19, .inl (aJ g, 64, .inr (.inl (lf64 (bn W))))), (a 20, .inl (aJ g, 8, .inr (.inl (lf64 (bn H))))), (a 22, .inl (aJ g, 10, .inr (.inl (lf64 Y))))])) (C : j_C g κ b_Mod_twice R_Mod rm_Mod_twice 3) : ∀ (k : Nat) (i : Nat), i ≤ 32 → 32 + 1 ≤ i + k → j_V g κ (0) (0) 7 [(0, .ref o), (1, .int (nI n)), (2, .int (nI i))] [] ([(o, .inr (6, mo a sz le ib mn pl at_ wr wh db)), (a 15, .inl (aI g, 2112, .inl (nf (cpT D Q i)))), (a 16, .inl (aI g, 32, .inl (nf D))), (a 17, .inl (aJ g, 64, .inr (.inl (lf64 (bn cK))))), (a 18, .inl (aJ g, 8, .inr (.inl (lf64 (bn cH))))), (a 19, .inl (aJ g, 64, .inr (.inl (lf64 (bn W))))), (a 20, .inl (aJ g, 8, .inr (.inl (lf64 (bn H))))), (a 22, .inl (aJ g, 10, .inr (.inl (lf64 Y))))]) := by
  intro k
  induction k with
  | zero =>
    intro i hi hk
    exfalso; omega
  | succ k ih =>
    intro i hi hk
    refine j_iload_n (pc := 7) C d_Mod_twice_7 rfl 2 rfl ?_
    refine j_bipush (pc := 8) (v := nI 32) C d_Mod_twice_8 (by decide) ?_
    refine j_icmp_geN (pc := 10) (tgt := 31) C (by omega) (by omega) d_Mod_twice_10 rfl (fun c10 => ?_) (fun c10 => ?_)
    · skip
      obtain rfl : i = 32 := by omega
      exact j_lv [0, 1, 2] rfl K
    · skip
      refine j_aload_n (pc := 13) C d_Mod_twice_13 rfl 0 rfl ?_
      refine j_get (pc := 14) C F_Mod_59 0 rfl rfl d_Mod_twice_14 ?_
      refine j_iload_n (pc := 17) C d_Mod_twice_17 rfl 2 rfl ?_
      refine j_aload_n (pc := 18) C d_Mod_twice_18 rfl 0 rfl ?_
      refine j_get (pc := 19) C F_Mod_62 0 rfl rfl d_Mod_twice_19 ?_
      refine j_iload_n (pc := 22) C d_Mod_twice_22 rfl 2 rfl ?_
      refine j_ialdN (pc := 23) C 2 1 rfl rfl (by omega) (by omega) d_Mod_twice_23 ?_
      refine j_iastB (pc := 24) (ws' := [(o, .inr (6, mo a sz le ib mn pl at_ wr wh db)), (a 15, .inl (aI g, 2112, .inl (nf (va_up (cpT D Q i) i (D i))))), (a 16, .inl (aI g, 32, .inl (nf D))), (a 17, .inl (aJ g, 64, .inr (.inl (lf64 (bn cK))))), (a 18, .inl (aJ g, 8, .inr (.inl (lf64 (bn cH))))), (a 19, .inl (aJ g, 64, .inr (.inl (lf64 (bn W))))), (a 20, .inl (aJ g, 8, .inr (.inl (lf64 (bn H))))), (a 22, .inl (aJ g, 10, .inr (.inl (lf64 Y))))]) C 1 1 rfl rfl (by omega) (by omega) rfl d_Mod_twice_24 ?_
      refine j_iinc (pc := 25) (k := 2) (v := nI (i + 1)) (lv' := [(2, .int (nI (i + 1))), (0, .ref o), (1, .int (nI n))]) C d_Mod_twice_25 rfl (j_inc _ _) (by decide) rfl ?_
      refine j_goto (pc := 28) (tgt := 7) C d_Mod_twice_28 rfl ?_
      refine j_lv (lv' := [(0, .ref o), (1, .int (nI n)), (2, .int (nI (i + 1)))]) [1, 2, 0] rfl ?_
      rw [cpT_s]
      exact ih (i + 1) (by omega) (by omega)
set_option maxHeartbeats 4000000 in
set_option maxRecDepth 100000 in
theorem c_Mod_twice (l : Launch) (g : JX) (o : Nat) (a : Nat → Nat) (n : Nat) (P D : Nat → Nat) (W H : Nat → BW) (Y : Nat → Nat) (sz le ib mn pl at_ wr wh db : Int32) (hn : n ≤ 2000) (hP : ∀ j, P j < 256) (hD : ∀ j, D j < 256) : j_Ct l y_Mod_twice b_Mod_twice 3 none rm_Mod_twice g ([(o, .inr (6, mo a sz le ib mn pl at_ wr wh db)), (a 15, .inl (aI g, 2112, .inl (nf P))), (a 16, .inl (aI g, 32, .inl (nf D))), (a 17, .inl (aJ g, 64, .inr (.inl (lf64 (bn cK))))), (a 18, .inl (aJ g, 8, .inr (.inl (lf64 (bn cH))))), (a 19, .inl (aJ g, 64, .inr (.inl (lf64 (bn W))))), (a 20, .inl (aJ g, 8, .inr (.inl (lf64 (bn H))))), (a 22, .inl (aJ g, 10, .inr (.inl (lf64 Y))))]) [.ref o, .int (nI n)] (fun r w => ∃ (Q1 D1 : Nat → Nat) (W1 H1 : Nat → BW) (Y1 : Nat → Nat), r = none ∧ w = [(o, .inr (6, mo a sz le ib mn pl at_ wr wh db)), (a 15, .inl (aI g, 2112, .inl (nf Q1))), (a 16, .inl (aI g, 32, .inl (nf D1))), (a 17, .inl (aJ g, 64, .inr (.inl (lf64 (bn cK))))), (a 18, .inl (aJ g, 8, .inr (.inl (lf64 (bn cH))))), (a 19, .inl (aJ g, 64, .inr (.inl (lf64 (bn W1))))), (a 20, .inl (aJ g, 8, .inr (.inl (lf64 (bn H1))))), (a 22, .inl (aJ g, 10, .inr (.inl (lf64 Y1))))] ∧ (∀ j, Q1 j < 256) ∧ (∀ j, D1 j < 256) ∧ ∀ j, j < 32 → D1 j = nm P n j) 0 0 := by
  refine j_ct (by decide) (Nat.le_of_ble_eq_true rfl) (fun κ hkl C hR hI => ?_)
  show j_V g κ 0 0 0 [(0, .ref o), (1, .int (nI n))] [] ([(o, .inr (6, mo a sz le ib mn pl at_ wr wh db)), (a 15, .inl (aI g, 2112, .inl (nf P))), (a 16, .inl (aI g, 32, .inl (nf D))), (a 17, .inl (aJ g, 64, .inr (.inl (lf64 (bn cK))))), (a 18, .inl (aJ g, 8, .inr (.inl (lf64 (bn cH))))), (a 19, .inl (aJ g, 64, .inr (.inl (lf64 (bn W))))), (a 20, .inl (aJ g, 8, .inr (.inl (lf64 (bn H))))), (a 22, .inl (aJ g, 10, .inr (.inl (lf64 Y))))])
  refine j_aload_n (pc := 0) C d_Mod_twice_0 rfl 0 rfl ?_
  refine j_iload_n (pc := 1) C d_Mod_twice_1 rfl 1 rfl ?_
  refine j_callV (pc := 2) (As := [.int (nI n)]) (rest := []) (wc := [(o, .inr (6, mo a sz le ib mn pl at_ wr wh db)), (a 15, .inl (aI g, 2112, .inl (nf P))), (a 16, .inl (aI g, 32, .inl (nf D))), (a 17, .inl (aJ g, 64, .inr (.inl (lf64 (bn cK))))), (a 18, .inl (aJ g, 8, .inr (.inl (lf64 (bn cH))))), (a 19, .inl (aJ g, 64, .inr (.inl (lf64 (bn W))))), (a 20, .inl (aJ g, 8, .inr (.inl (lf64 (bn H))))), (a 22, .inl (aJ g, 10, .inr (.inl (lf64 Y))))]) (wr := []) C (c_Mod_digestOf (kl κ) g o a n P D W H Y sz le ib mn pl at_ wr wh db (by omega) (hP)) Y_Mod_digestOf ml_Mod_127 im_Mod_digestOf sl_Mod_digestOf rfl ⟨by decide, by decide⟩ rfl (ci := 6) (q0 := 0) rfl rfl rfl (Nat.le_of_ble_eq_true rfl) (j_sb [0, 1, 2, 3, 4, 5, 6, 7] rfl rfl) rfl d_Mod_twice_2 (fun r w1 hO => ?_)
  obtain ⟨Q1, W1, H1, Y1, rfl, rfl, hQ1⟩ := hO
  show j_V g κ 0 0 5 [(0, .ref o), (1, .int (nI n))] [] ([(o, .inr (6, mo a sz le ib mn pl at_ wr wh db)), (a 15, .inl (aI g, 2112, .inl (nf Q1))), (a 16, .inl (aI g, 32, .inl (nf (cpT (dB P n) D 32)))), (a 17, .inl (aJ g, 64, .inr (.inl (lf64 (bn cK))))), (a 18, .inl (aJ g, 8, .inr (.inl (lf64 (bn cH))))), (a 19, .inl (aJ g, 64, .inr (.inl (lf64 (bn W1))))), (a 20, .inl (aJ g, 8, .inr (.inl (lf64 (bn H1))))), (a 22, .inl (aJ g, 10, .inr (.inl (lf64 Y1))))])
  refine j_iconst (pc := 5) (v := nI 0) C d_Mod_twice_5 (by decide) ?_
  refine j_istore_n (pc := 6) (lv' := [(2, .int (nI 0)), (0, .ref o), (1, .int (nI n))]) C d_Mod_twice_6 rfl (by decide) rfl ?_
  refine j_lv (lv' := [(0, .ref o), (1, .int (nI n)), (2, .int (nI 0))]) [1, 2, 0] rfl ?_
  have e := lp_tw (o := o) (n := n) (a := a) (Q := Q1) (D := cpT (dB P n) D 32) (W := W1) (H := H1) (Y := Y1) (sz := sz) (le := le) (ib := ib) (mn := mn) (pl := pl) (at_ := at_) (wr := wr) (wh := wh) (db := db) ?_ C 33 0 (by omega) (by omega)
  rw [cpT_0] at e
  exact e
  show j_V g κ 0 0 31 [(0, .ref o), (1, .int (nI n)), (2, .int (nI 32))] [] ([(o, .inr (6, mo a sz le ib mn pl at_ wr wh db)), (a 15, .inl (aI g, 2112, .inl (nf (cpT (cpT (dB P n) D 32) Q1 32)))), (a 16, .inl (aI g, 32, .inl (nf (cpT (dB P n) D 32)))), (a 17, .inl (aJ g, 64, .inr (.inl (lf64 (bn cK))))), (a 18, .inl (aJ g, 8, .inr (.inl (lf64 (bn cH))))), (a 19, .inl (aJ g, 64, .inr (.inl (lf64 (bn W1))))), (a 20, .inl (aJ g, 8, .inr (.inl (lf64 (bn H1))))), (a 22, .inl (aJ g, 10, .inr (.inl (lf64 Y1))))])
  refine j_aload_n (pc := 31) C d_Mod_twice_31 rfl 0 rfl ?_
  refine j_bipush (pc := 32) (v := nI 32) C d_Mod_twice_32 (by decide) ?_
  refine j_callV (pc := 34) (As := [.int (nI 32)]) (rest := []) (wc := [(o, .inr (6, mo a sz le ib mn pl at_ wr wh db)), (a 15, .inl (aI g, 2112, .inl (nf (cpT (cpT (dB P n) D 32) Q1 32)))), (a 16, .inl (aI g, 32, .inl (nf (cpT (dB P n) D 32)))), (a 17, .inl (aJ g, 64, .inr (.inl (lf64 (bn cK))))), (a 18, .inl (aJ g, 8, .inr (.inl (lf64 (bn cH))))), (a 19, .inl (aJ g, 64, .inr (.inl (lf64 (bn W1))))), (a 20, .inl (aJ g, 8, .inr (.inl (lf64 (bn H1))))), (a 22, .inl (aJ g, 10, .inr (.inl (lf64 Y1))))]) (wr := []) C (c_Mod_digestOf (kl κ) g o a 32 (cpT (cpT (dB P n) D 32) Q1 32) (cpT (dB P n) D 32) W1 H1 Y1 sz le ib mn pl at_ wr wh db (by omega) (cpT_lt (cpT_lt (dB_lt P n) hD) hQ1)) Y_Mod_digestOf ml_Mod_127 im_Mod_digestOf sl_Mod_digestOf rfl ⟨by decide, by decide⟩ rfl (ci := 6) (q0 := 0) rfl rfl rfl (Nat.le_of_ble_eq_true rfl) (j_sb [0, 1, 2, 3, 4, 5, 6, 7] rfl rfl) rfl d_Mod_twice_34 (fun r w1 hO => ?_)
  obtain ⟨Q2, W2, H2, Y2, rfl, rfl, hQ2⟩ := hO
  show j_V g κ 0 0 37 [(0, .ref o), (1, .int (nI n)), (2, .int (nI 32))] [] ([(o, .inr (6, mo a sz le ib mn pl at_ wr wh db)), (a 15, .inl (aI g, 2112, .inl (nf Q2))), (a 16, .inl (aI g, 32, .inl (nf (cpT (dB (cpT (cpT (dB P n) D 32) Q1 32) 32) (cpT (dB P n) D 32) 32)))), (a 17, .inl (aJ g, 64, .inr (.inl (lf64 (bn cK))))), (a 18, .inl (aJ g, 8, .inr (.inl (lf64 (bn cH))))), (a 19, .inl (aJ g, 64, .inr (.inl (lf64 (bn W2))))), (a 20, .inl (aJ g, 8, .inr (.inl (lf64 (bn H2))))), (a 22, .inl (aJ g, 10, .inr (.inl (lf64 Y2))))])
  exact hR.2.2 _ _ _ d_Mod_twice_37 rfl (⟨Q2, _, W2, H2, Y2, rfl, rfl, hQ2, cpT_lt (dB_lt _ _) (cpT_lt (dB_lt P n) hD), fun j hj => by rw [cpT_at hj, dB_cg (fun i hi => by rw [cpT_at hi, cpT_at hi])]; rfl⟩)
abbrev rm_Mod_nameOf : Room := { frames := 4, cells := 0, slots := 0, locals := 98 }
set_option maxHeartbeats 4000000 in
set_option maxRecDepth 100000 in
theorem lp_na {g : JX} {κ : JK} {o b e u : Nat} {a : Nat → Nat} {t v Q D : Nat → Nat} {W H : Nat → BW} {Y : Nat → Nat} {sz le ib mn pl at_ wr wh db : Int32} (hb : b ≤ e) (he : e ≤ 2000) (K : j_V g κ 0 0 31 [(0, .ref o), (1, .int (nI b)), (2, .int (nI e)), (3, .int (nI u)), (4, .int (nI e))] [] ([(o, .inr (6, mo a sz le ib mn pl at_ wr wh db)), (a 1, .inl (aI g, 2000, .inl (nf t))), (a 12, .inl (aI g, 416, .inl (nf v))), (a 15, .inl (aI g, 2112, .inl (nf (cpT (fun j => t (b + j)) Q (e - b))))), (a 16, .inl (aI g, 32, .inl (nf D))), (a 17, .inl (aJ g, 64, .inr (.inl (lf64 (bn cK))))), (a 18, .inl (aJ g, 8, .inr (.inl (lf64 (bn cH))))), (a 19, .inl (aJ g, 64, .inr (.inl (lf64 (bn W))))), (a 20, .inl (aJ g, 8, .inr (.inl (lf64 (bn H))))), (a 22, .inl (aJ g, 10, .inr (.inl (lf64 Y))))])) (C : j_C g κ b_Mod_nameOf R_Mod rm_Mod_nameOf 5) : ∀ (k : Nat) (i : Nat), i ≤ e - b → e - b + 1 ≤ i + k → j_V g κ (0) (0) 3 [(0, .ref o), (1, .int (nI b)), (2, .int (nI e)), (3, .int (nI u)), (4, .int (nI (b + i)))] [] ([(o, .inr (6, mo a sz le ib mn pl at_ wr wh db)), (a 1, .inl (aI g, 2000, .inl (nf t))), (a 12, .inl (aI g, 416, .inl (nf v))), (a 15, .inl (aI g, 2112, .inl (nf (cpT (fun j => t (b + j)) Q i)))), (a 16, .inl (aI g, 32, .inl (nf D))), (a 17, .inl (aJ g, 64, .inr (.inl (lf64 (bn cK))))), (a 18, .inl (aJ g, 8, .inr (.inl (lf64 (bn cH))))), (a 19, .inl (aJ g, 64, .inr (.inl (lf64 (bn W))))), (a 20, .inl (aJ g, 8, .inr (.inl (lf64 (bn H))))), (a 22, .inl (aJ g, 10, .inr (.inl (lf64 Y))))]) := by
  intro k
  induction k with
  | zero =>
    intro i hi hk
    exfalso; omega
  | succ k ih =>
    intro i hi hk
    refine j_iload (pc := 3) C d_Mod_nameOf_3 4 rfl ?_
    refine j_iload_n (pc := 5) C d_Mod_nameOf_5 rfl 2 rfl ?_
    refine j_icmp_geN (pc := 6) (tgt := 31) C (by omega) (by omega) d_Mod_nameOf_6 rfl (fun c6 => ?_) (fun c6 => ?_)
    · skip
      obtain rfl : i = e - b := by omega
      rw [show b + (e - b) = e by omega]
      exact j_lv [0, 1, 2, 3, 4] rfl K
    · skip
      refine j_aload_n (pc := 9) C d_Mod_nameOf_9 rfl 0 rfl ?_
      refine j_get (pc := 10) C F_Mod_59 0 rfl rfl d_Mod_nameOf_10 ?_
      refine j_iload (pc := 13) C d_Mod_nameOf_13 4 rfl ?_
      refine j_iload_n (pc := 15) C d_Mod_nameOf_15 rfl 1 rfl ?_
      refine j_isubN (pc := 16) C (by omega) d_Mod_nameOf_16 ?_
      refine j_aload_n (pc := 17) C d_Mod_nameOf_17 rfl 0 rfl ?_
      refine j_get (pc := 18) C F_Mod_13 0 rfl rfl d_Mod_nameOf_18 ?_
      refine j_iload (pc := 21) C d_Mod_nameOf_21 4 rfl ?_
      refine j_ialdN (pc := 23) C 1 1 rfl rfl (by omega) (by omega) d_Mod_nameOf_23 ?_
      refine j_iastB (pc := 24) (ws' := [(o, .inr (6, mo a sz le ib mn pl at_ wr wh db)), (a 1, .inl (aI g, 2000, .inl (nf t))), (a 12, .inl (aI g, 416, .inl (nf v))), (a 15, .inl (aI g, 2112, .inl (nf (va_up (cpT (fun j => t (b + j)) Q i) ((b + i) - b) (t (b + i)))))), (a 16, .inl (aI g, 32, .inl (nf D))), (a 17, .inl (aJ g, 64, .inr (.inl (lf64 (bn cK))))), (a 18, .inl (aJ g, 8, .inr (.inl (lf64 (bn cH))))), (a 19, .inl (aJ g, 64, .inr (.inl (lf64 (bn W))))), (a 20, .inl (aJ g, 8, .inr (.inl (lf64 (bn H))))), (a 22, .inl (aJ g, 10, .inr (.inl (lf64 Y))))]) C 3 1 rfl rfl (by omega) (by omega) rfl d_Mod_nameOf_24 ?_
      refine j_iinc (pc := 25) (k := 4) (v := nI (b + i + 1)) (lv' := [(4, .int (nI (b + i + 1))), (0, .ref o), (1, .int (nI b)), (2, .int (nI e)), (3, .int (nI u))]) C d_Mod_nameOf_25 rfl (j_inc _ _) (by decide) rfl ?_
      refine j_goto (pc := 28) (tgt := 3) C d_Mod_nameOf_28 rfl ?_
      refine j_lv (lv' := [(0, .ref o), (1, .int (nI b)), (2, .int (nI e)), (3, .int (nI u)), (4, .int (nI (b + i + 1)))]) [1, 2, 3, 4, 0] rfl ?_
      rw [show b + i - b = i by omega, cpT_s (f := (fun j => t (b + j)))]
      exact ih (i + 1) (by omega) (by omega)
set_option maxHeartbeats 4000000 in
set_option maxRecDepth 100000 in
theorem lp_nb {g : JX} {κ : JK} {o b e u : Nat} {a : Nat → Nat} {t v Q D : Nat → Nat} {W H : Nat → BW} {Y : Nat → Nat} {sz le ib mn pl at_ wr wh db : Int32} (hu : u < 13) (hN : ∀ j, j < 32 → D j = nm (fun j => t (b + j)) (e - b) j) (C : j_C g κ b_Mod_nameOf R_Mod rm_Mod_nameOf 5) (hR : j_R g κ b_Mod_nameOf none (fun r w => r = none ∧ w = [(o, .inr (6, mo a sz le ib mn pl at_ wr wh db)), (a 1, .inl (aI g, 2000, .inl (nf t))), (a 12, .inl (aI g, 416, .inl (nf (putF v (32 * u) 32 (nm (fun j => t (b + j)) (e - b)))))), (a 15, .inl (aI g, 2112, .inl (nf Q))), (a 16, .inl (aI g, 32, .inl (nf D))), (a 17, .inl (aJ g, 64, .inr (.inl (lf64 (bn cK))))), (a 18, .inl (aJ g, 8, .inr (.inl (lf64 (bn cH))))), (a 19, .inl (aJ g, 64, .inr (.inl (lf64 (bn W))))), (a 20, .inl (aJ g, 8, .inr (.inl (lf64 (bn H))))), (a 22, .inl (aJ g, 10, .inr (.inl (lf64 Y))))]) 0 0) : ∀ (k : Nat) (i : Nat), i ≤ 32 → 32 + 1 ≤ i + k → j_V g κ (0) (0) 41 [(0, .ref o), (1, .int (nI b)), (2, .int (nI e)), (3, .int (nI u)), (4, .int (nI i))] [] ([(o, .inr (6, mo a sz le ib mn pl at_ wr wh db)), (a 1, .inl (aI g, 2000, .inl (nf t))), (a 12, .inl (aI g, 416, .inl (nf (putF v (32 * u) i (nm (fun j => t (b + j)) (e - b)))))), (a 15, .inl (aI g, 2112, .inl (nf Q))), (a 16, .inl (aI g, 32, .inl (nf D))), (a 17, .inl (aJ g, 64, .inr (.inl (lf64 (bn cK))))), (a 18, .inl (aJ g, 8, .inr (.inl (lf64 (bn cH))))), (a 19, .inl (aJ g, 64, .inr (.inl (lf64 (bn W))))), (a 20, .inl (aJ g, 8, .inr (.inl (lf64 (bn H))))), (a 22, .inl (aJ g, 10, .inr (.inl (lf64 Y))))]) := by
  intro k
  induction k with
  | zero =>
    intro i hi hk
    exfalso; omega
  | succ k ih =>
    intro i hi hk
    refine j_iload (pc := 41) C d_Mod_nameOf_41 4 rfl ?_
    refine j_bipush (pc := 43) (v := nI 32) C d_Mod_nameOf_43 (by decide) ?_
    refine j_icmp_geN (pc := 45) (tgt := 73) C (by omega) (by omega) d_Mod_nameOf_45 rfl (fun c45 => ?_) (fun c45 => ?_)
    · skip
      exact hR.2.2 _ _ _ d_Mod_nameOf_73 rfl (⟨rfl, by rw [show i = 32 by omega]⟩)
    · skip
      refine j_aload_n (pc := 48) C d_Mod_nameOf_48 rfl 0 rfl ?_
      refine j_get (pc := 49) C F_Mod_50 0 rfl rfl d_Mod_nameOf_49 ?_
      refine j_bipush (pc := 52) (v := nI 32) C d_Mod_nameOf_52 (by decide) ?_
      refine j_iload_n (pc := 54) C d_Mod_nameOf_54 rfl 3 rfl ?_
      refine j_imulN (pc := 55) C d_Mod_nameOf_55 ?_
      refine j_iload (pc := 56) C d_Mod_nameOf_56 4 rfl ?_
      refine j_iaddN (pc := 58) C d_Mod_nameOf_58 ?_
      refine j_aload_n (pc := 59) C d_Mod_nameOf_59 rfl 0 rfl ?_
      refine j_get (pc := 60) C F_Mod_62 0 rfl rfl d_Mod_nameOf_60 ?_
      refine j_iload (pc := 63) C d_Mod_nameOf_63 4 rfl ?_
      refine j_ialdN (pc := 65) C 4 1 rfl rfl (by omega) (by omega) d_Mod_nameOf_65 ?_
      refine j_rwi (y := nI (nm (fun j => t (b + j)) (e - b) i)) (congrArg nI (hN i (by omega))) ?_
      refine j_iastB (pc := 66) (ws' := [(o, .inr (6, mo a sz le ib mn pl at_ wr wh db)), (a 1, .inl (aI g, 2000, .inl (nf t))), (a 12, .inl (aI g, 416, .inl (nf (va_up (putF v (32 * u) i (nm (fun j => t (b + j)) (e - b))) ((32 * u) + i) (nm (fun j => t (b + j)) (e - b) i))))), (a 15, .inl (aI g, 2112, .inl (nf Q))), (a 16, .inl (aI g, 32, .inl (nf D))), (a 17, .inl (aJ g, 64, .inr (.inl (lf64 (bn cK))))), (a 18, .inl (aJ g, 8, .inr (.inl (lf64 (bn cH))))), (a 19, .inl (aJ g, 64, .inr (.inl (lf64 (bn W))))), (a 20, .inl (aJ g, 8, .inr (.inl (lf64 (bn H))))), (a 22, .inl (aJ g, 10, .inr (.inl (lf64 Y))))]) C 2 1 rfl rfl (by omega) (by omega) rfl d_Mod_nameOf_66 ?_
      refine j_iinc (pc := 67) (k := 4) (v := nI (i + 1)) (lv' := [(4, .int (nI (i + 1))), (0, .ref o), (1, .int (nI b)), (2, .int (nI e)), (3, .int (nI u))]) C d_Mod_nameOf_67 rfl (j_inc _ _) (by decide) rfl ?_
      refine j_goto (pc := 70) (tgt := 41) C d_Mod_nameOf_70 rfl ?_
      refine j_lv (lv' := [(0, .ref o), (1, .int (nI b)), (2, .int (nI e)), (3, .int (nI u)), (4, .int (nI (i + 1)))]) [1, 2, 3, 4, 0] rfl ?_
      rw [putF_s]
      exact ih (i + 1) (by omega) (by omega)
set_option maxHeartbeats 4000000 in
set_option maxRecDepth 100000 in
theorem c_Mod_nameOf (l : Launch) (g : JX) (o : Nat) (a : Nat → Nat) (b e u : Nat) (t v Q D : Nat → Nat) (W H : Nat → BW) (Y : Nat → Nat) (sz le ib mn pl at_ wr wh db : Int32) (hb : b ≤ e) (he : e ≤ 2000) (hu : u < 13) (hT : ∀ j, t j < 256) (hQ : ∀ j, Q j < 256) (hD : ∀ j, D j < 256) : j_Ct l y_Mod_nameOf b_Mod_nameOf 5 none rm_Mod_nameOf g ([(o, .inr (6, mo a sz le ib mn pl at_ wr wh db)), (a 1, .inl (aI g, 2000, .inl (nf t))), (a 12, .inl (aI g, 416, .inl (nf v))), (a 15, .inl (aI g, 2112, .inl (nf Q))), (a 16, .inl (aI g, 32, .inl (nf D))), (a 17, .inl (aJ g, 64, .inr (.inl (lf64 (bn cK))))), (a 18, .inl (aJ g, 8, .inr (.inl (lf64 (bn cH))))), (a 19, .inl (aJ g, 64, .inr (.inl (lf64 (bn W))))), (a 20, .inl (aJ g, 8, .inr (.inl (lf64 (bn H))))), (a 22, .inl (aJ g, 10, .inr (.inl (lf64 Y))))]) [.ref o, .int (nI b), .int (nI e), .int (nI u)] (fun r w => ∃ (Q1 D1 : Nat → Nat) (W1 H1 : Nat → BW) (Y1 : Nat → Nat), r = none ∧ w = [(o, .inr (6, mo a sz le ib mn pl at_ wr wh db)), (a 1, .inl (aI g, 2000, .inl (nf t))), (a 12, .inl (aI g, 416, .inl (nf (putF v (32 * u) 32 (nm (fun j => t (b + j)) (e - b)))))), (a 15, .inl (aI g, 2112, .inl (nf Q1))), (a 16, .inl (aI g, 32, .inl (nf D1))), (a 17, .inl (aJ g, 64, .inr (.inl (lf64 (bn cK))))), (a 18, .inl (aJ g, 8, .inr (.inl (lf64 (bn cH))))), (a 19, .inl (aJ g, 64, .inr (.inl (lf64 (bn W1))))), (a 20, .inl (aJ g, 8, .inr (.inl (lf64 (bn H1))))), (a 22, .inl (aJ g, 10, .inr (.inl (lf64 Y1))))] ∧ (∀ j, Q1 j < 256) ∧ ∀ j, D1 j < 256) 0 0 := by
  refine j_ct (by decide) (Nat.le_of_ble_eq_true rfl) (fun κ hkl C hR hI => ?_)
  show j_V g κ 0 0 0 [(0, .ref o), (1, .int (nI b)), (2, .int (nI e)), (3, .int (nI u))] [] ([(o, .inr (6, mo a sz le ib mn pl at_ wr wh db)), (a 1, .inl (aI g, 2000, .inl (nf t))), (a 12, .inl (aI g, 416, .inl (nf v))), (a 15, .inl (aI g, 2112, .inl (nf Q))), (a 16, .inl (aI g, 32, .inl (nf D))), (a 17, .inl (aJ g, 64, .inr (.inl (lf64 (bn cK))))), (a 18, .inl (aJ g, 8, .inr (.inl (lf64 (bn cH))))), (a 19, .inl (aJ g, 64, .inr (.inl (lf64 (bn W))))), (a 20, .inl (aJ g, 8, .inr (.inl (lf64 (bn H))))), (a 22, .inl (aJ g, 10, .inr (.inl (lf64 Y))))])
  refine j_iload_n (pc := 0) C d_Mod_nameOf_0 rfl 1 rfl ?_
  refine j_istore (pc := 1) (lv' := [(4, .int (nI b)), (0, .ref o), (1, .int (nI b)), (2, .int (nI e)), (3, .int (nI u))]) C d_Mod_nameOf_1 (by decide) rfl ?_
  refine j_lv (lv' := [(0, .ref o), (1, .int (nI b)), (2, .int (nI e)), (3, .int (nI u)), (4, .int (nI b))]) [1, 2, 3, 4, 0] rfl ?_
  have e9 := lp_na (o := o) (b := b) (e := e) (u := u) (a := a) (t := t) (v := v) (sz := sz) (le := le) (ib := ib) (mn := mn) (pl := pl) (at_ := at_) (wr := wr) (wh := wh) (db := db) (Q := Q) (D := D) (W := W) (H := H) (Y := Y) hb he ?_ C (e - b + 1) 0 (by omega) (by omega)
  rw [cpT_0, Nat.add_zero] at e9
  exact e9
  show j_V g κ 0 0 31 [(0, .ref o), (1, .int (nI b)), (2, .int (nI e)), (3, .int (nI u)), (4, .int (nI e))] [] ([(o, .inr (6, mo a sz le ib mn pl at_ wr wh db)), (a 1, .inl (aI g, 2000, .inl (nf t))), (a 12, .inl (aI g, 416, .inl (nf v))), (a 15, .inl (aI g, 2112, .inl (nf (cpT (fun j => t (b + j)) Q (e - b))))), (a 16, .inl (aI g, 32, .inl (nf D))), (a 17, .inl (aJ g, 64, .inr (.inl (lf64 (bn cK))))), (a 18, .inl (aJ g, 8, .inr (.inl (lf64 (bn cH))))), (a 19, .inl (aJ g, 64, .inr (.inl (lf64 (bn W))))), (a 20, .inl (aJ g, 8, .inr (.inl (lf64 (bn H))))), (a 22, .inl (aJ g, 10, .inr (.inl (lf64 Y))))])
  refine j_aload_n (pc := 31) C d_Mod_nameOf_31 rfl 0 rfl ?_
  refine j_iload_n (pc := 32) C d_Mod_nameOf_32 rfl 2 rfl ?_
  refine j_iload_n (pc := 33) C d_Mod_nameOf_33 rfl 1 rfl ?_
  refine j_isubN (pc := 34) C (by omega) d_Mod_nameOf_34 ?_
  refine j_callV (pc := 35) (As := [.int (nI (e - b))]) (rest := []) (wc := [(o, .inr (6, mo a sz le ib mn pl at_ wr wh db)), (a 15, .inl (aI g, 2112, .inl (nf (cpT (fun j => t (b + j)) Q (e - b))))), (a 16, .inl (aI g, 32, .inl (nf D))), (a 17, .inl (aJ g, 64, .inr (.inl (lf64 (bn cK))))), (a 18, .inl (aJ g, 8, .inr (.inl (lf64 (bn cH))))), (a 19, .inl (aJ g, 64, .inr (.inl (lf64 (bn W))))), (a 20, .inl (aJ g, 8, .inr (.inl (lf64 (bn H))))), (a 22, .inl (aJ g, 10, .inr (.inl (lf64 Y))))]) (wr := [(a 1, .inl (aI g, 2000, .inl (nf t))), (a 12, .inl (aI g, 416, .inl (nf v)))]) C (c_Mod_twice (kl κ) g o a (e - b) (cpT (fun j => t (b + j)) Q (e - b)) D W H Y sz le ib mn pl at_ wr wh db (by omega) (cpT_lt (fun _ => hT _) hQ) (hD)) Y_Mod_twice ml_Mod_124 im_Mod_twice sl_Mod_twice rfl ⟨by decide, by decide⟩ rfl (ci := 6) (q0 := 0) rfl rfl rfl (Nat.le_of_ble_eq_true rfl) (j_sb [0, 3, 4, 5, 6, 7, 8, 9, 1, 2] rfl rfl) rfl d_Mod_nameOf_35 (fun r w1 hO => ?_)
  obtain ⟨Q1, D1, W1, H1, Y1, rfl, rfl, hQ1, hD1, hN1⟩ := hO
  show j_V g κ 0 0 38 [(0, .ref o), (1, .int (nI b)), (2, .int (nI e)), (3, .int (nI u)), (4, .int (nI e))] [] ([(o, .inr (6, mo a sz le ib mn pl at_ wr wh db)), (a 15, .inl (aI g, 2112, .inl (nf Q1))), (a 16, .inl (aI g, 32, .inl (nf D1))), (a 17, .inl (aJ g, 64, .inr (.inl (lf64 (bn cK))))), (a 18, .inl (aJ g, 8, .inr (.inl (lf64 (bn cH))))), (a 19, .inl (aJ g, 64, .inr (.inl (lf64 (bn W1))))), (a 20, .inl (aJ g, 8, .inr (.inl (lf64 (bn H1))))), (a 22, .inl (aJ g, 10, .inr (.inl (lf64 Y1)))), (a 1, .inl (aI g, 2000, .inl (nf t))), (a 12, .inl (aI g, 416, .inl (nf v)))])
  refine j_iconst (pc := 38) (v := nI 0) C d_Mod_nameOf_38 (by decide) ?_
  refine j_istore (pc := 39) (lv' := [(4, .int (nI 0)), (0, .ref o), (1, .int (nI b)), (2, .int (nI e)), (3, .int (nI u))]) C d_Mod_nameOf_39 (by decide) rfl ?_
  refine j_lv (lv' := [(0, .ref o), (1, .int (nI b)), (2, .int (nI e)), (3, .int (nI u)), (4, .int (nI 0))]) [1, 2, 3, 4, 0] rfl ?_
  refine j_sub (ws' := [(o, .inr (6, mo a sz le ib mn pl at_ wr wh db)), (a 1, .inl (aI g, 2000, .inl (nf t))), (a 12, .inl (aI g, 416, .inl (nf v))), (a 15, .inl (aI g, 2112, .inl (nf Q1))), (a 16, .inl (aI g, 32, .inl (nf D1))), (a 17, .inl (aJ g, 64, .inr (.inl (lf64 (bn cK))))), (a 18, .inl (aJ g, 8, .inr (.inl (lf64 (bn cH))))), (a 19, .inl (aJ g, 64, .inr (.inl (lf64 (bn W1))))), (a 20, .inl (aJ g, 8, .inr (.inl (lf64 (bn H1))))), (a 22, .inl (aJ g, 10, .inr (.inl (lf64 Y1))))]) (j_sb [0, 8, 9, 1, 2, 3, 4, 5, 6, 7] rfl rfl) ?_
  have e9 := lp_nb (o := o) (b := b) (e := e) (u := u) (a := a) (t := t) (v := v) (sz := sz) (le := le) (ib := ib) (mn := mn) (pl := pl) (at_ := at_) (wr := wr) (wh := wh) (db := db) (Q := Q1) (D := D1) (W := W1) (H := H1) (Y := Y1) hu (fun j hj => (hN1 j hj).trans (by rw [nm_cg (fun i hi => cpT_at hi)])) C (j_R_mono hR (fun r w h => ⟨Q1, D1, W1, H1, Y1, h.1, h.2, hQ1, hD1⟩)) 33 0 (by omega) (by omega)
  rw [putF_0] at e9
  exact e9
