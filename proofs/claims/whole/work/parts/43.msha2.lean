abbrev rm_Mod_turn : Room := { frames := 0, cells := 0, slots := 0, locals := 0 }
set_option maxHeartbeats 4000000 in
set_option maxRecDepth 100000 in
theorem c_Mod_turn (l : Launch) (g : JX) (b : BW) (k1 r1 : Nat) (h : k1 + r1 = 32) (h0 : 0 < r1) (h1 : 0 < k1) : j_Ct l y_Mod_turn b_Mod_turn 3 (some .long) rm_Mod_turn g ([]) [.long (lN b.toNat), .int (nI k1)] (fun r w => r = some (.long (lN (b.rotateRight r1).toNat)) ∧ w = []) 0 0 := by
  refine j_ct (by decide) (Nat.le_of_ble_eq_true rfl) (fun κ hkl C hR hI => ?_)
  show j_V g κ 0 0 0 [(0, .long (lN b.toNat)), (2, .int (nI k1))] [] ([])
  have hb := b.isLt
  have hp : 0 < 2 ^ k1 := Nat.pow_pos (by decide)
  have hp2 : 0 < 2 ^ (32 - k1) := Nat.pow_pos (by decide)
  have hq : 2 ^ k1 < 2 ^ 32 := Nat.pow_lt_pow_right (by decide) (by omega)
  have hq2 : 2 ^ (32 - k1) < 2 ^ 32 := Nat.pow_lt_pow_right (by decide) (by omega)
  have hm : b.toNat * 2 ^ k1 < 2 ^ 63 := Nat.lt_of_lt_of_le (Nat.mul_lt_mul_of_lt_of_le hb (show 2 ^ k1 ≤ 2 ^ 31 from Nat.pow_le_pow_right (by decide) (by omega)) (by decide)) (by decide)
  refine j_lload_n (pc := 0) C d_Mod_turn_0 rfl 0 rfl ?_
  refine j_lconst (pc := 1) (v := 1) C d_Mod_turn_1 (by decide) ?_
  refine j_rwl (y := lN 1) (rfl) ?_
  refine j_iload_n (pc := 2) C d_Mod_turn_2 rfl 1 rfl ?_
  refine j_lshl (pc := 3) (v := (lN 1) <<< ((nI k1).toInt64 &&& 63)) C d_Mod_turn_3 rfl ?_
  refine j_rwl (y := lN (2 ^ k1)) (by rw [wb_shl 1 (by omega), Nat.one_mul]) ?_
  refine j_lmulN (pc := 4) C d_Mod_turn_4 ?_
  refine j_ldc2 (pc := 5) C k_Mod_92 d_Mod_turn_5 ?_
  refine j_rwl (y := lN 4294967296) (rfl) ?_
  refine j_lremN (pc := 8) C (by omega) (by omega) (by omega) d_Mod_turn_8 ?_
  refine j_lload_n (pc := 9) C d_Mod_turn_9 rfl 0 rfl ?_
  refine j_lconst (pc := 10) (v := 1) C d_Mod_turn_10 (by decide) ?_
  refine j_rwl (y := lN 1) (rfl) ?_
  refine j_bipush (pc := 11) (v := nI 32) C d_Mod_turn_11 (by decide) ?_
  refine j_iload_n (pc := 13) C d_Mod_turn_13 rfl 1 rfl ?_
  refine j_isubN (pc := 14) C (by omega) d_Mod_turn_14 ?_
  refine j_lshl (pc := 15) (v := (lN 1) <<< ((nI (32 - k1)).toInt64 &&& 63)) C d_Mod_turn_15 rfl ?_
  refine j_rwl (y := lN (2 ^ (32 - k1))) (by rw [wb_shl 1 (by omega), Nat.one_mul]) ?_
  refine j_ldivN (pc := 16) C (by omega) (by omega) (by omega) d_Mod_turn_16 ?_
  refine j_laddN (pc := 17) C d_Mod_turn_17 ?_
  exact hR.2.1 _ _ _ _ d_Mod_turn_18 rfl (⟨by rw [← turn_v b h h0 h1], rfl⟩)
abbrev rm_Mod_not : Room := { frames := 0, cells := 0, slots := 0, locals := 0 }
set_option maxHeartbeats 4000000 in
set_option maxRecDepth 100000 in
theorem c_Mod_not (l : Launch) (g : JX) (b : BW)  : j_Ct l y_Mod_not b_Mod_not 2 (some .long) rm_Mod_not g ([]) [.long (lN b.toNat)] (fun r w => r = some (.long (lN (~~~ b).toNat)) ∧ w = []) 0 0 := by
  refine j_ct (by decide) (Nat.le_of_ble_eq_true rfl) (fun κ hkl C hR hI => ?_)
  show j_V g κ 0 0 0 [(0, .long (lN b.toNat))] [] ([])
  have hb := b.isLt
  refine j_ldc2 (pc := 0) C k_Mod_102 d_Mod_not_0 ?_
  refine j_rwl (y := lN 4294967295) (rfl) ?_
  refine j_lload_n (pc := 3) C d_Mod_not_3 rfl 0 rfl ?_
  refine j_lsubN (pc := 4) C (by omega) d_Mod_not_4 ?_
  exact hR.2.1 _ _ _ _ d_Mod_not_5 rfl (⟨by rw [← not_v b], rfl⟩)
abbrev rm_Mod_block : Room := { frames := 1, cells := 0, slots := 0, locals := 22 }
set_option maxHeartbeats 4000000 in
set_option maxRecDepth 100000 in
theorem lp_b4 {g : JX} {κ : JK} {o c : Nat} {a : Nat → Nat} {P : Nat → Nat} {sz le ib mn pl at_ wr wh db : Int32} {i : Nat} {W H : Nat → BW} {Y : Nat → Nat} (hP : ∀ j, P j < 256) (hc : c * 64 + 64 ≤ 2112) (hi : i < 16) (K : j_V g κ 0 0 64 [(0, .ref o), (1, .int (nI (c * 64))), (2, .int (nI i))] [] ([(o, .inr (6, mo a sz le ib mn pl at_ wr wh db)), (a 15, .inl (aI g, 2112, .inl (nf P))), (a 17, .inl (aJ g, 64, .inr (.inl (lf64 (bn cK))))), (a 19, .inl (aJ g, 64, .inr (.inl (lf64 (bn (va_up W i (wd P (c * 64 + 4 * i)))))))), (a 20, .inl (aJ g, 8, .inr (.inl (lf64 (bn H))))), (a 22, .inl (aJ g, 10, .inr (.inl (lf64 Y))))])) (C : j_C g κ b_Mod_block R_Mod rm_Mod_block 12) : ∀ (k : Nat) (m : Nat), m ≤ 4 → 4 + 1 ≤ m + k → j_V g κ (0) (0) 23 [(0, .ref o), (1, .int (nI (c * 64))), (2, .int (nI i)), (3, .int (nI m))] [] ([(o, .inr (6, mo a sz le ib mn pl at_ wr wh db)), (a 15, .inl (aI g, 2112, .inl (nf P))), (a 17, .inl (aJ g, 64, .inr (.inl (lf64 (bn cK))))), (a 19, .inl (aJ g, 64, .inr (.inl (lf64 (bn (va_up W i (BitVec.ofNat 32 (be P (c * 64 + 4 * i) m)))))))), (a 20, .inl (aJ g, 8, .inr (.inl (lf64 (bn H))))), (a 22, .inl (aJ g, 10, .inr (.inl (lf64 Y))))]) := by
  intro k
  induction k with
  | zero =>
    intro m hm hk
    exfalso; omega
  | succ k ih =>
    intro m hm hk
    refine j_iload_n (pc := 23) C d_Mod_block_23 rfl 3 rfl ?_
    refine j_iconst (pc := 24) (v := nI 4) C d_Mod_block_24 (by decide) ?_
    refine j_icmp_geN (pc := 25) (tgt := 64) C (by omega) (by omega) d_Mod_block_25 rfl (fun c25 => ?_) (fun c25 => ?_)
    · skip
      obtain rfl : m = 4 := by omega
      rw [wd_be]
      exact j_lv [0, 1, 2] rfl K
    · skip
      refine j_aload_n (pc := 28) C d_Mod_block_28 rfl 0 rfl ?_
      refine j_get (pc := 29) C F_Mod_72 0 rfl rfl d_Mod_block_29 ?_
      refine j_iload_n (pc := 32) C d_Mod_block_32 rfl 2 rfl ?_
      refine j_aload_n (pc := 33) C d_Mod_block_33 rfl 0 rfl ?_
      refine j_get (pc := 34) C F_Mod_72 0 rfl rfl d_Mod_block_34 ?_
      refine j_iload_n (pc := 37) C d_Mod_block_37 rfl 2 rfl ?_
      refine j_laldN (pc := 38) C 3 3 rfl rfl (by omega) (by omega) d_Mod_block_38 ?_
      refine j_rwl (y := lN (be P (c * 64 + 4 * i) m)) (by show lN ((va_up W i _) i).toNat = _; rw [va_up_self, ← be_bv hP (by omega)]) ?_
      refine j_ldc2 (pc := 39) C k_Mod_112 d_Mod_block_39 ?_
      refine j_rwl (y := lN 256) (rfl) ?_
      refine j_lmulN (pc := 42) C d_Mod_block_42 ?_
      refine j_aload_n (pc := 43) C d_Mod_block_43 rfl 0 rfl ?_
      refine j_get (pc := 44) C F_Mod_59 0 rfl rfl d_Mod_block_44 ?_
      refine j_iload_n (pc := 47) C d_Mod_block_47 rfl 1 rfl ?_
      refine j_iconst (pc := 48) (v := nI 4) C d_Mod_block_48 (by decide) ?_
      refine j_iload_n (pc := 49) C d_Mod_block_49 rfl 2 rfl ?_
      refine j_imulN (pc := 50) C d_Mod_block_50 ?_
      refine j_iaddN (pc := 51) C d_Mod_block_51 ?_
      refine j_iload_n (pc := 52) C d_Mod_block_52 rfl 3 rfl ?_
      refine j_iaddN (pc := 53) C d_Mod_block_53 ?_
      refine j_ialdN (pc := 54) C 1 1 rfl rfl (by omega) (by omega) d_Mod_block_54 ?_
      refine j_i2l (pc := 55) (v := lN (P (((c * 64) + (4 * i)) + m))) C d_Mod_block_55 (nI_l (by have h9 := hP (((c * 64) + (4 * i)) + m); omega)) ?_
      refine j_laddN (pc := 56) C d_Mod_block_56 ?_
      refine j_rwl (y := lN (BitVec.ofNat 32 (be P (c * 64 + 4 * i) (m + 1))).toNat) (by rw [← be_bv hP (by omega)]; rfl) ?_
      refine j_lastW (pc := 57) (ws' := [(o, .inr (6, mo a sz le ib mn pl at_ wr wh db)), (a 15, .inl (aI g, 2112, .inl (nf P))), (a 17, .inl (aJ g, 64, .inr (.inl (lf64 (bn cK))))), (a 19, .inl (aJ g, 64, .inr (.inl (lf64 (bn (va_up (va_up W i (BitVec.ofNat 32 (be P (c * 64 + 4 * i) m))) i (BitVec.ofNat 32 (be P (c * 64 + 4 * i) (m + 1))))))))), (a 20, .inl (aJ g, 8, .inr (.inl (lf64 (bn H))))), (a 22, .inl (aJ g, 10, .inr (.inl (lf64 Y))))]) C 3 3 rfl rfl (by omega) (by omega) rfl d_Mod_block_57 ?_
      refine j_iinc (pc := 58) (k := 3) (v := nI (m + 1)) (lv' := [(3, .int (nI (m + 1))), (0, .ref o), (1, .int (nI (c * 64))), (2, .int (nI i))]) C d_Mod_block_58 rfl (j_inc _ _) (by decide) rfl ?_
      refine j_goto (pc := 61) (tgt := 23) C d_Mod_block_61 rfl ?_
      refine j_lv (lv' := [(0, .ref o), (1, .int (nI (c * 64))), (2, .int (nI i)), (3, .int (nI (m + 1)))]) [1, 2, 3, 0] rfl ?_
      rw [vu_vu]
      exact ih (m + 1) (by omega) (by omega)
set_option maxHeartbeats 4000000 in
set_option maxRecDepth 100000 in
theorem lp_bw {g : JX} {κ : JK} {o c : Nat} {a : Nat → Nat} {P : Nat → Nat} {sz le ib mn pl at_ wr wh db : Int32} {H : Nat → BW} {Y : Nat → Nat} (hP : ∀ j, P j < 256) (hc : c * 64 + 64 ≤ 2112) (K : ∀ W : Nat → BW, (∀ j, j < 64 → W j = wx (fun i => wd P (c * 64 + 4 * i)) j) → j_V g κ 0 0 165 [(0, .ref o), (1, .int (nI (c * 64))), (2, .int (nI 64))] [] ([(o, .inr (6, mo a sz le ib mn pl at_ wr wh db)), (a 15, .inl (aI g, 2112, .inl (nf P))), (a 17, .inl (aJ g, 64, .inr (.inl (lf64 (bn cK))))), (a 19, .inl (aJ g, 64, .inr (.inl (lf64 (bn W))))), (a 20, .inl (aJ g, 8, .inr (.inl (lf64 (bn H))))), (a 22, .inl (aJ g, 10, .inr (.inl (lf64 Y))))])) (C : j_C g κ b_Mod_block R_Mod rm_Mod_block 12) : ∀ (k : Nat) (i : Nat) (W : Nat → BW), i ≤ 64 → 64 + 1 ≤ i + k → (∀ j, j < i → W j = wx (fun i => wd P (c * 64 + 4 * i)) j) → j_V g κ (0) (0) 2 [(0, .ref o), (1, .int (nI (c * 64))), (2, .int (nI i))] [] ([(o, .inr (6, mo a sz le ib mn pl at_ wr wh db)), (a 15, .inl (aI g, 2112, .inl (nf P))), (a 17, .inl (aJ g, 64, .inr (.inl (lf64 (bn cK))))), (a 19, .inl (aJ g, 64, .inr (.inl (lf64 (bn W))))), (a 20, .inl (aJ g, 8, .inr (.inl (lf64 (bn H))))), (a 22, .inl (aJ g, 10, .inr (.inl (lf64 Y))))]) := by
  intro k
  induction k with
  | zero =>
    intro i W hi hk hW
    exfalso; omega
  | succ k ih =>
    intro i W hi hk hW
    refine j_iload_n (pc := 2) C d_Mod_block_2 rfl 2 rfl ?_
    refine j_bipush (pc := 3) (v := nI 64) C d_Mod_block_3 (by decide) ?_
    refine j_icmp_geN (pc := 5) (tgt := 165) C (by omega) (by omega) d_Mod_block_5 rfl (fun c5 => ?_) (fun c5 => ?_)
    · skip
      obtain rfl : i = 64 := by omega
      exact j_lv [0, 1, 2] rfl (K W hW)
    · skip
      refine j_iload_n (pc := 8) C d_Mod_block_8 rfl 2 rfl ?_
      refine j_bipush (pc := 9) (v := nI 16) C d_Mod_block_9 (by decide) ?_
      refine j_icmp_geN (pc := 11) (tgt := 67) C (by omega) (by omega) d_Mod_block_11 rfl (fun c11 => ?_) (fun c11 => ?_)
      · skip
        refine j_aload_n (pc := 67) C d_Mod_block_67 rfl 0 rfl ?_
        refine j_get (pc := 68) C F_Mod_72 0 rfl rfl d_Mod_block_68 ?_
        refine j_iload_n (pc := 71) C d_Mod_block_71 rfl 2 rfl ?_
        refine j_bipush (pc := 72) (v := nI 15) C d_Mod_block_72 (by decide) ?_
        refine j_isubN (pc := 74) C (by omega) d_Mod_block_74 ?_
        refine j_laldN (pc := 75) C 3 3 rfl rfl (by omega) (by omega) d_Mod_block_75 ?_
        refine j_lstore_n (pc := 76) (lv' := [(3, .long (lN (W (i - 15)).toNat)), (0, .ref o), (1, .int (nI (c * 64))), (2, .int (nI i))]) C d_Mod_block_76 rfl (by decide) rfl ?_
        refine j_aload_n (pc := 77) C d_Mod_block_77 rfl 1 rfl ?_
        refine j_get (pc := 78) C F_Mod_72 0 rfl rfl d_Mod_block_78 ?_
        refine j_iload_n (pc := 81) C d_Mod_block_81 rfl 3 rfl ?_
        refine j_iconst (pc := 82) (v := nI 2) C d_Mod_block_82 (by decide) ?_
        refine j_isubN (pc := 83) C (by omega) d_Mod_block_83 ?_
        refine j_laldN (pc := 84) C 3 3 rfl rfl (by omega) (by omega) d_Mod_block_84 ?_
        refine j_lstore (pc := 85) (lv' := [(5, .long (lN (W (i - 2)).toNat)), (3, .long (lN (W (i - 15)).toNat)), (0, .ref o), (1, .int (nI (c * 64))), (2, .int (nI i))]) C d_Mod_block_85 (by decide) rfl ?_
        refine j_aload_n (pc := 87) C d_Mod_block_87 rfl 2 rfl ?_
        refine j_get (pc := 88) C F_Mod_72 0 rfl rfl d_Mod_block_88 ?_
        refine j_iload_n (pc := 91) C d_Mod_block_91 rfl 4 rfl ?_
        refine j_aload_n (pc := 92) C d_Mod_block_92 rfl 2 rfl ?_
        refine j_get (pc := 93) C F_Mod_72 0 rfl rfl d_Mod_block_93 ?_
        refine j_iload_n (pc := 96) C d_Mod_block_96 rfl 4 rfl ?_
        refine j_bipush (pc := 97) (v := nI 16) C d_Mod_block_97 (by decide) ?_
        refine j_isubN (pc := 99) C (by omega) d_Mod_block_99 ?_
        refine j_laldN (pc := 100) C 3 3 rfl rfl (by omega) (by omega) d_Mod_block_100 ?_
        refine j_lload_n (pc := 101) C d_Mod_block_101 rfl 1 rfl ?_
        refine j_bipush (pc := 102) (v := nI 25) C d_Mod_block_102 (by decide) ?_
        refine j_callS (pc := 104) (As := [.long (lN (W (i - 15)).toNat), .int (nI 25)]) (rest := [.long (lN (W (i - 16)).toNat), .int (nI i), .ref (a 19)]) (wc := []) (wr := [(o, .inr (6, mo a sz le ib mn pl at_ wr wh db)), (a 15, .inl (aI g, 2112, .inl (nf P))), (a 17, .inl (aJ g, 64, .inr (.inl (lf64 (bn cK))))), (a 19, .inl (aJ g, 64, .inr (.inl (lf64 (bn W))))), (a 20, .inl (aJ g, 8, .inr (.inl (lf64 (bn H))))), (a 22, .inl (aJ g, 10, .inr (.inl (lf64 Y))))]) C (c_Mod_turn (kl κ) g (W (i - 15)) 25 7 rfl (by decide) (by decide)) Y_Mod_turn ml_Mod_114 sta_Mod_turn rfl ⟨by decide, by decide⟩ rfl (Nat.le_of_ble_eq_true rfl) (j_sb [0, 1, 2, 3, 4, 5] rfl rfl) rfl d_Mod_block_104 (fun r w1 hO => ?_)
        obtain ⟨rfl, rfl⟩ := hO
        show j_V g κ 0 0 107 [(5, .long (lN (W (i - 2)).toNat)), (3, .long (lN (W (i - 15)).toNat)), (0, .ref o), (1, .int (nI (c * 64))), (2, .int (nI i))] [.long (lN ((W (i - 15)).rotateRight 7).toNat), .long (lN (W (i - 16)).toNat), .int (nI i), .ref (a 19)] ([(o, .inr (6, mo a sz le ib mn pl at_ wr wh db)), (a 15, .inl (aI g, 2112, .inl (nf P))), (a 17, .inl (aJ g, 64, .inr (.inl (lf64 (bn cK))))), (a 19, .inl (aJ g, 64, .inr (.inl (lf64 (bn W))))), (a 20, .inl (aJ g, 8, .inr (.inl (lf64 (bn H))))), (a 22, .inl (aJ g, 10, .inr (.inl (lf64 Y))))])
        refine j_lload_n (pc := 107) C d_Mod_block_107 rfl 1 rfl ?_
        refine j_bipush (pc := 108) (v := nI 14) C d_Mod_block_108 (by decide) ?_
        refine j_callS (pc := 110) (As := [.long (lN (W (i - 15)).toNat), .int (nI 14)]) (rest := [.long (lN ((W (i - 15)).rotateRight 7).toNat), .long (lN (W (i - 16)).toNat), .int (nI i), .ref (a 19)]) (wc := []) (wr := [(o, .inr (6, mo a sz le ib mn pl at_ wr wh db)), (a 15, .inl (aI g, 2112, .inl (nf P))), (a 17, .inl (aJ g, 64, .inr (.inl (lf64 (bn cK))))), (a 19, .inl (aJ g, 64, .inr (.inl (lf64 (bn W))))), (a 20, .inl (aJ g, 8, .inr (.inl (lf64 (bn H))))), (a 22, .inl (aJ g, 10, .inr (.inl (lf64 Y))))]) C (c_Mod_turn (kl κ) g (W (i - 15)) 14 18 rfl (by decide) (by decide)) Y_Mod_turn ml_Mod_114 sta_Mod_turn rfl ⟨by decide, by decide⟩ rfl (Nat.le_of_ble_eq_true rfl) (j_sb [0, 1, 2, 3, 4, 5] rfl rfl) rfl d_Mod_block_110 (fun r w1 hO => ?_)
        obtain ⟨rfl, rfl⟩ := hO
        show j_V g κ 0 0 113 [(5, .long (lN (W (i - 2)).toNat)), (3, .long (lN (W (i - 15)).toNat)), (0, .ref o), (1, .int (nI (c * 64))), (2, .int (nI i))] [.long (lN ((W (i - 15)).rotateRight 18).toNat), .long (lN ((W (i - 15)).rotateRight 7).toNat), .long (lN (W (i - 16)).toNat), .int (nI i), .ref (a 19)] ([(o, .inr (6, mo a sz le ib mn pl at_ wr wh db)), (a 15, .inl (aI g, 2112, .inl (nf P))), (a 17, .inl (aJ g, 64, .inr (.inl (lf64 (bn cK))))), (a 19, .inl (aJ g, 64, .inr (.inl (lf64 (bn W))))), (a 20, .inl (aJ g, 8, .inr (.inl (lf64 (bn H))))), (a 22, .inl (aJ g, 10, .inr (.inl (lf64 Y))))])
        refine j_lxorW (pc := 113) C d_Mod_block_113 ?_
        refine j_lload_n (pc := 114) C d_Mod_block_114 rfl 1 rfl ?_
        have q5 := (W (i - 15)).isLt
        refine j_ldc2 (pc := 115) C k_Mod_104 d_Mod_block_115 ?_
        refine j_rwl (y := lN 8) (rfl) ?_
        refine j_ldivN (pc := 118) C (by omega) (by omega) (by omega) d_Mod_block_118 ?_
        refine j_rwl (y := lN ((W (i - 15)) >>> 3).toNat) (by rw [← shr_v]) ?_
        refine j_lxorW (pc := 119) C d_Mod_block_119 ?_
        refine j_laddN (pc := 120) C d_Mod_block_120 ?_
        refine j_aload_n (pc := 121) C d_Mod_block_121 rfl 2 rfl ?_
        refine j_get (pc := 122) C F_Mod_72 0 rfl rfl d_Mod_block_122 ?_
        refine j_iload_n (pc := 125) C d_Mod_block_125 rfl 4 rfl ?_
        refine j_bipush (pc := 126) (v := nI 7) C d_Mod_block_126 (by decide) ?_
        refine j_isubN (pc := 128) C (by omega) d_Mod_block_128 ?_
        refine j_laldN (pc := 129) C 3 3 rfl rfl (by omega) (by omega) d_Mod_block_129 ?_
        refine j_laddN (pc := 130) C d_Mod_block_130 ?_
        refine j_lload (pc := 131) C d_Mod_block_131 0 rfl ?_
        refine j_bipush (pc := 133) (v := nI 15) C d_Mod_block_133 (by decide) ?_
        refine j_callS (pc := 135) (As := [.long (lN (W (i - 2)).toNat), .int (nI 15)]) (rest := [.long (lN ((((W (i - 16)).toNat) + (((((W (i - 15)).rotateRight 7) ^^^ ((W (i - 15)).rotateRight 18)) ^^^ ((W (i - 15)) >>> 3)).toNat)) + ((W (i - 7)).toNat))), .int (nI i), .ref (a 19)]) (wc := []) (wr := [(o, .inr (6, mo a sz le ib mn pl at_ wr wh db)), (a 15, .inl (aI g, 2112, .inl (nf P))), (a 17, .inl (aJ g, 64, .inr (.inl (lf64 (bn cK))))), (a 19, .inl (aJ g, 64, .inr (.inl (lf64 (bn W))))), (a 20, .inl (aJ g, 8, .inr (.inl (lf64 (bn H))))), (a 22, .inl (aJ g, 10, .inr (.inl (lf64 Y))))]) C (c_Mod_turn (kl κ) g (W (i - 2)) 15 17 rfl (by decide) (by decide)) Y_Mod_turn ml_Mod_114 sta_Mod_turn rfl ⟨by decide, by decide⟩ rfl (Nat.le_of_ble_eq_true rfl) (j_sb [0, 1, 2, 3, 4, 5] rfl rfl) rfl d_Mod_block_135 (fun r w1 hO => ?_)
        obtain ⟨rfl, rfl⟩ := hO
        show j_V g κ 0 0 138 [(5, .long (lN (W (i - 2)).toNat)), (3, .long (lN (W (i - 15)).toNat)), (0, .ref o), (1, .int (nI (c * 64))), (2, .int (nI i))] [.long (lN ((W (i - 2)).rotateRight 17).toNat), .long (lN ((((W (i - 16)).toNat) + (((((W (i - 15)).rotateRight 7) ^^^ ((W (i - 15)).rotateRight 18)) ^^^ ((W (i - 15)) >>> 3)).toNat)) + ((W (i - 7)).toNat))), .int (nI i), .ref (a 19)] ([(o, .inr (6, mo a sz le ib mn pl at_ wr wh db)), (a 15, .inl (aI g, 2112, .inl (nf P))), (a 17, .inl (aJ g, 64, .inr (.inl (lf64 (bn cK))))), (a 19, .inl (aJ g, 64, .inr (.inl (lf64 (bn W))))), (a 20, .inl (aJ g, 8, .inr (.inl (lf64 (bn H))))), (a 22, .inl (aJ g, 10, .inr (.inl (lf64 Y))))])
        refine j_lload (pc := 138) C d_Mod_block_138 0 rfl ?_
        refine j_bipush (pc := 140) (v := nI 13) C d_Mod_block_140 (by decide) ?_
        refine j_callS (pc := 142) (As := [.long (lN (W (i - 2)).toNat), .int (nI 13)]) (rest := [.long (lN ((W (i - 2)).rotateRight 17).toNat), .long (lN ((((W (i - 16)).toNat) + (((((W (i - 15)).rotateRight 7) ^^^ ((W (i - 15)).rotateRight 18)) ^^^ ((W (i - 15)) >>> 3)).toNat)) + ((W (i - 7)).toNat))), .int (nI i), .ref (a 19)]) (wc := []) (wr := [(o, .inr (6, mo a sz le ib mn pl at_ wr wh db)), (a 15, .inl (aI g, 2112, .inl (nf P))), (a 17, .inl (aJ g, 64, .inr (.inl (lf64 (bn cK))))), (a 19, .inl (aJ g, 64, .inr (.inl (lf64 (bn W))))), (a 20, .inl (aJ g, 8, .inr (.inl (lf64 (bn H))))), (a 22, .inl (aJ g, 10, .inr (.inl (lf64 Y))))]) C (c_Mod_turn (kl κ) g (W (i - 2)) 13 19 rfl (by decide) (by decide)) Y_Mod_turn ml_Mod_114 sta_Mod_turn rfl ⟨by decide, by decide⟩ rfl (Nat.le_of_ble_eq_true rfl) (j_sb [0, 1, 2, 3, 4, 5] rfl rfl) rfl d_Mod_block_142 (fun r w1 hO => ?_)
        obtain ⟨rfl, rfl⟩ := hO
        show j_V g κ 0 0 145 [(5, .long (lN (W (i - 2)).toNat)), (3, .long (lN (W (i - 15)).toNat)), (0, .ref o), (1, .int (nI (c * 64))), (2, .int (nI i))] [.long (lN ((W (i - 2)).rotateRight 19).toNat), .long (lN ((W (i - 2)).rotateRight 17).toNat), .long (lN ((((W (i - 16)).toNat) + (((((W (i - 15)).rotateRight 7) ^^^ ((W (i - 15)).rotateRight 18)) ^^^ ((W (i - 15)) >>> 3)).toNat)) + ((W (i - 7)).toNat))), .int (nI i), .ref (a 19)] ([(o, .inr (6, mo a sz le ib mn pl at_ wr wh db)), (a 15, .inl (aI g, 2112, .inl (nf P))), (a 17, .inl (aJ g, 64, .inr (.inl (lf64 (bn cK))))), (a 19, .inl (aJ g, 64, .inr (.inl (lf64 (bn W))))), (a 20, .inl (aJ g, 8, .inr (.inl (lf64 (bn H))))), (a 22, .inl (aJ g, 10, .inr (.inl (lf64 Y))))])
        refine j_lxorW (pc := 145) C d_Mod_block_145 ?_
        refine j_lload (pc := 146) C d_Mod_block_146 0 rfl ?_
        have q6 := (W (i - 2)).isLt
        refine j_ldc2 (pc := 148) C k_Mod_118 d_Mod_block_148 ?_
        refine j_rwl (y := lN 1024) (rfl) ?_
        refine j_ldivN (pc := 151) C (by omega) (by omega) (by omega) d_Mod_block_151 ?_
        refine j_rwl (y := lN ((W (i - 2)) >>> 10).toNat) (by rw [← shr_v]) ?_
        refine j_lxorW (pc := 152) C d_Mod_block_152 ?_
        refine j_laddN (pc := 153) C d_Mod_block_153 ?_
        refine j_ldc2 (pc := 154) C k_Mod_92 d_Mod_block_154 ?_
        refine j_rwl (y := lN 4294967296) (rfl) ?_
        have q1 := (W (i - 16)).isLt
        have q2 := (s0 (W (i - 15))).isLt
        have q3 := (W (i - 7)).isLt
        have q4 := (s1 (W (i - 2))).isLt
        unfold s0 at q2
        unfold s1 at q4
        refine j_lremN (pc := 157) C (by omega) (by omega) (by omega) d_Mod_block_157 ?_
        refine j_rwl (y := lN (s1 (W (i - 2)) + W (i - 7) + s0 (W (i - 15)) + W (i - 16)).toNat) (congrArg lN (wx_sum (s1 (W (i - 2))) (W (i - 7)) (s0 (W (i - 15))) (W (i - 16)))) ?_
        refine j_lastW (pc := 158) (ws' := [(o, .inr (6, mo a sz le ib mn pl at_ wr wh db)), (a 15, .inl (aI g, 2112, .inl (nf P))), (a 17, .inl (aJ g, 64, .inr (.inl (lf64 (bn cK))))), (a 19, .inl (aJ g, 64, .inr (.inl (lf64 (bn (va_up W i (s1 (W (i - 2)) + W (i - 7) + s0 (W (i - 15)) + W (i - 16)))))))), (a 20, .inl (aJ g, 8, .inr (.inl (lf64 (bn H))))), (a 22, .inl (aJ g, 10, .inr (.inl (lf64 Y))))]) C 3 3 rfl rfl (by omega) (by omega) rfl d_Mod_block_158 ?_
        refine j_iinc (pc := 159) (k := 4) (v := nI (i + 1)) (lv' := [(2, .int (nI (i + 1))), (5, .long (lN (W (i - 2)).toNat)), (3, .long (lN (W (i - 15)).toNat)), (0, .ref o), (1, .int (nI (c * 64)))]) C d_Mod_block_159 rfl (j_inc _ _) (by decide) rfl ?_
        refine j_goto (pc := 162) (tgt := 2) C d_Mod_block_162 rfl ?_
        refine j_lv (lv' := [(0, .ref o), (1, .int (nI (c * 64))), (2, .int (nI (i + 1)))]) [3, 4, 0] rfl ?_
        exact ih (i + 1) _ (by omega) (by omega) (up_s hW (by rw [wx_hi (by omega), hW _ (by omega), hW _ (by omega), hW _ (by omega), hW _ (by omega)]))
      · skip
        refine j_aload_n (pc := 14) C d_Mod_block_14 rfl 0 rfl ?_
        refine j_get (pc := 15) C F_Mod_72 0 rfl rfl d_Mod_block_15 ?_
        refine j_iload_n (pc := 18) C d_Mod_block_18 rfl 2 rfl ?_
        refine j_lconst (pc := 19) (v := 0) C d_Mod_block_19 (by decide) ?_
        refine j_rwl (y := lN 0) (rfl) ?_
        refine j_rwl (y := lN (BitVec.ofNat 32 (be P (c * 64 + 4 * i) 0)).toNat) (rfl) ?_
        refine j_lastW (pc := 20) (ws' := [(o, .inr (6, mo a sz le ib mn pl at_ wr wh db)), (a 15, .inl (aI g, 2112, .inl (nf P))), (a 17, .inl (aJ g, 64, .inr (.inl (lf64 (bn cK))))), (a 19, .inl (aJ g, 64, .inr (.inl (lf64 (bn (va_up W i (BitVec.ofNat 32 (be P (c * 64 + 4 * i) 0)))))))), (a 20, .inl (aJ g, 8, .inr (.inl (lf64 (bn H))))), (a 22, .inl (aJ g, 10, .inr (.inl (lf64 Y))))]) C 3 3 rfl rfl (by omega) (by omega) rfl d_Mod_block_20 ?_
        refine j_iconst (pc := 21) (v := nI 0) C d_Mod_block_21 (by decide) ?_
        refine j_istore_n (pc := 22) (lv' := [(3, .int (nI 0)), (0, .ref o), (1, .int (nI (c * 64))), (2, .int (nI i))]) C d_Mod_block_22 rfl (by decide) rfl ?_
        refine j_lv (lv' := [(0, .ref o), (1, .int (nI (c * 64))), (2, .int (nI i)), (3, .int (nI 0))]) [1, 2, 3, 0] rfl ?_
        refine lp_b4 (o := o) (c := c) (a := a) (P := P) (sz := sz) (le := le) (ib := ib) (mn := mn) (pl := pl) (at_ := at_) (wr := wr) (wh := wh) (db := db) (i := i) (W := W) (H := H) (Y := Y) hP hc c11 ?_ C 5 0 (by omega) (by omega)
        show j_V g κ 0 0 64 [(0, .ref o), (1, .int (nI (c * 64))), (2, .int (nI i))] [] ([(o, .inr (6, mo a sz le ib mn pl at_ wr wh db)), (a 15, .inl (aI g, 2112, .inl (nf P))), (a 17, .inl (aJ g, 64, .inr (.inl (lf64 (bn cK))))), (a 19, .inl (aJ g, 64, .inr (.inl (lf64 (bn (va_up W i (wd P (c * 64 + 4 * i)))))))), (a 20, .inl (aJ g, 8, .inr (.inl (lf64 (bn H))))), (a 22, .inl (aJ g, 10, .inr (.inl (lf64 Y))))])
        refine j_goto (pc := 64) (tgt := 159) C d_Mod_block_64 rfl ?_
        refine j_iinc (pc := 159) (k := 2) (v := nI (i + 1)) (lv' := [(2, .int (nI (i + 1))), (0, .ref o), (1, .int (nI (c * 64)))]) C d_Mod_block_159 rfl (j_inc _ _) (by decide) rfl ?_
        refine j_goto (pc := 162) (tgt := 2) C d_Mod_block_162 rfl ?_
        refine j_lv (lv' := [(0, .ref o), (1, .int (nI (c * 64))), (2, .int (nI (i + 1)))]) [1, 2, 0] rfl ?_
        exact ih (i + 1) _ (by omega) (by omega) (up_s hW (by rw [wx_lo (by omega)]))
set_option maxHeartbeats 4000000 in
set_option maxRecDepth 100000 in
theorem lp_bc {g : JX} {κ : JK} {o c : Nat} {a : Nat → Nat} {P : Nat → Nat} {sz le ib mn pl at_ wr wh db : Int32} {W H : Nat → BW} {Y : Nat → Nat} (hP : ∀ j, P j < 256) (hc : c * 64 + 64 ≤ 2112) (K : j_V g κ 0 0 191 [(0, .ref o), (1, .int (nI (c * 64))), (2, .int (nI 8))] [] ([(o, .inr (6, mo a sz le ib mn pl at_ wr wh db)), (a 15, .inl (aI g, 2112, .inl (nf P))), (a 17, .inl (aJ g, 64, .inr (.inl (lf64 (bn cK))))), (a 19, .inl (aJ g, 64, .inr (.inl (lf64 (bn W))))), (a 20, .inl (aJ g, 8, .inr (.inl (lf64 (bn H))))), (a 22, .inl (aJ g, 10, .inr (.inl (lf64 (mx H Y)))))])) (C : j_C g κ b_Mod_block R_Mod rm_Mod_block 12) : ∀ (k : Nat) (i : Nat), i ≤ 8 → 8 + 1 ≤ i + k → j_V g κ (0) (0) 167 [(0, .ref o), (1, .int (nI (c * 64))), (2, .int (nI i))] [] ([(o, .inr (6, mo a sz le ib mn pl at_ wr wh db)), (a 15, .inl (aI g, 2112, .inl (nf P))), (a 17, .inl (aJ g, 64, .inr (.inl (lf64 (bn cK))))), (a 19, .inl (aJ g, 64, .inr (.inl (lf64 (bn W))))), (a 20, .inl (aJ g, 8, .inr (.inl (lf64 (bn H))))), (a 22, .inl (aJ g, 10, .inr (.inl (lf64 (cpN H Y i)))))]) := by
  intro k
  induction k with
  | zero =>
    intro i hi hk
    exfalso; omega
  | succ k ih =>
    intro i hi hk
    refine j_iload_n (pc := 167) C d_Mod_block_167 rfl 2 rfl ?_
    refine j_bipush (pc := 168) (v := nI 8) C d_Mod_block_168 (by decide) ?_
    refine j_icmp_geN (pc := 170) (tgt := 191) C (by omega) (by omega) d_Mod_block_170 rfl (fun c170 => ?_) (fun c170 => ?_)
    · skip
      obtain rfl : i = 8 := by omega
      exact j_lv [0, 1, 2] rfl K
    · skip
      refine j_aload_n (pc := 173) C d_Mod_block_173 rfl 0 rfl ?_
      refine j_get (pc := 174) C F_Mod_81 0 rfl rfl d_Mod_block_174 ?_
      refine j_iload_n (pc := 177) C d_Mod_block_177 rfl 2 rfl ?_
      refine j_aload_n (pc := 178) C d_Mod_block_178 rfl 0 rfl ?_
      refine j_get (pc := 179) C F_Mod_75 0 rfl rfl d_Mod_block_179 ?_
      refine j_iload_n (pc := 182) C d_Mod_block_182 rfl 2 rfl ?_
      refine j_laldN (pc := 183) C 4 3 rfl rfl (by omega) (by omega) d_Mod_block_183 ?_
      refine j_lastB (pc := 184) (ws' := [(o, .inr (6, mo a sz le ib mn pl at_ wr wh db)), (a 15, .inl (aI g, 2112, .inl (nf P))), (a 17, .inl (aJ g, 64, .inr (.inl (lf64 (bn cK))))), (a 19, .inl (aJ g, 64, .inr (.inl (lf64 (bn W))))), (a 20, .inl (aJ g, 8, .inr (.inl (lf64 (bn H))))), (a 22, .inl (aJ g, 10, .inr (.inl (lf64 (va_up (cpN H Y i) i ((H i).toNat))))))]) C 5 3 rfl rfl (by omega) (by omega) rfl d_Mod_block_184 ?_
      refine j_iinc (pc := 185) (k := 2) (v := nI (i + 1)) (lv' := [(2, .int (nI (i + 1))), (0, .ref o), (1, .int (nI (c * 64)))]) C d_Mod_block_185 rfl (j_inc _ _) (by decide) rfl ?_
      refine j_goto (pc := 188) (tgt := 167) C d_Mod_block_188 rfl ?_
      refine j_lv (lv' := [(0, .ref o), (1, .int (nI (c * 64))), (2, .int (nI (i + 1)))]) [1, 2, 0] rfl ?_
      rw [cpN_s]
      exact ih (i + 1) (by omega) (by omega)
set_option maxHeartbeats 4000000 in
set_option maxRecDepth 100000 in
theorem lp_br {g : JX} {κ : JK} {o c : Nat} {a : Nat → Nat} {P : Nat → Nat} {sz le ib mn pl at_ wr wh db : Int32} {W H : Nat → BW} {Y : Nat → Nat} (hP : ∀ j, P j < 256) (hc : c * 64 + 64 ≤ 2112) (K : ∀ d : Nat → BW, (∀ j, j < 8 → d j = rdN W H 64 j) → j_V g κ 0 0 410 [(0, .ref o), (1, .int (nI (c * 64))), (2, .int (nI 64))] [] ([(o, .inr (6, mo a sz le ib mn pl at_ wr wh db)), (a 15, .inl (aI g, 2112, .inl (nf P))), (a 17, .inl (aJ g, 64, .inr (.inl (lf64 (bn cK))))), (a 19, .inl (aJ g, 64, .inr (.inl (lf64 (bn W))))), (a 20, .inl (aJ g, 8, .inr (.inl (lf64 (bn H))))), (a 22, .inl (aJ g, 10, .inr (.inl (lf64 (mx d Y)))))])) (C : j_C g κ b_Mod_block R_Mod rm_Mod_block 12) : ∀ (k : Nat) (i : Nat) (d : Nat → BW), i ≤ 64 → 64 + 1 ≤ i + k → (∀ j, j < 8 → d j = rdN W H i j) → j_V g κ (0) (0) 193 [(0, .ref o), (1, .int (nI (c * 64))), (2, .int (nI i))] [] ([(o, .inr (6, mo a sz le ib mn pl at_ wr wh db)), (a 15, .inl (aI g, 2112, .inl (nf P))), (a 17, .inl (aJ g, 64, .inr (.inl (lf64 (bn cK))))), (a 19, .inl (aJ g, 64, .inr (.inl (lf64 (bn W))))), (a 20, .inl (aJ g, 8, .inr (.inl (lf64 (bn H))))), (a 22, .inl (aJ g, 10, .inr (.inl (lf64 (mx d Y)))))]) := by
  intro k
  induction k with
  | zero =>
    intro i d hi hk hY
    exfalso; omega
  | succ k ih =>
    intro i d hi hk hY
    refine j_iload_n (pc := 193) C d_Mod_block_193 rfl 2 rfl ?_
    refine j_bipush (pc := 194) (v := nI 64) C d_Mod_block_194 (by decide) ?_
    refine j_icmp_geN (pc := 196) (tgt := 410) C (by omega) (by omega) d_Mod_block_196 rfl (fun c196 => ?_) (fun c196 => ?_)
    · skip
      obtain rfl : i = 64 := by omega
      exact j_lv [0, 1, 2] rfl (K d hY)
    · skip
      refine j_aload_n (pc := 199) C d_Mod_block_199 rfl 0 rfl ?_
      refine j_get (pc := 200) C F_Mod_81 0 rfl rfl d_Mod_block_200 ?_
      refine j_iconst (pc := 203) (v := nI 4) C d_Mod_block_203 (by decide) ?_
      refine j_laldN (pc := 204) C 5 3 rfl rfl (by omega) (by omega) d_Mod_block_204 ?_
      refine j_lstore_n (pc := 205) (lv' := [(3, .long (lN (d 4).toNat)), (0, .ref o), (1, .int (nI (c * 64))), (2, .int (nI i))]) C d_Mod_block_205 rfl (by decide) rfl ?_
      refine j_aload_n (pc := 206) C d_Mod_block_206 rfl 1 rfl ?_
      refine j_get (pc := 207) C F_Mod_81 0 rfl rfl d_Mod_block_207 ?_
      refine j_iconst (pc := 210) (v := nI 0) C d_Mod_block_210 (by decide) ?_
      refine j_laldN (pc := 211) C 5 3 rfl rfl (by omega) (by omega) d_Mod_block_211 ?_
      refine j_lstore (pc := 212) (lv' := [(5, .long (lN (d 0).toNat)), (3, .long (lN (d 4).toNat)), (0, .ref o), (1, .int (nI (c * 64))), (2, .int (nI i))]) C d_Mod_block_212 (by decide) rfl ?_
      refine j_aload_n (pc := 214) C d_Mod_block_214 rfl 2 rfl ?_
      refine j_get (pc := 215) C F_Mod_81 0 rfl rfl d_Mod_block_215 ?_
      refine j_bipush (pc := 218) (v := nI 7) C d_Mod_block_218 (by decide) ?_
      refine j_laldN (pc := 220) C 5 3 rfl rfl (by omega) (by omega) d_Mod_block_220 ?_
      refine j_lload_n (pc := 221) C d_Mod_block_221 rfl 1 rfl ?_
      refine j_bipush (pc := 222) (v := nI 26) C d_Mod_block_222 (by decide) ?_
      refine j_callS (pc := 224) (As := [.long (lN (d 4).toNat), .int (nI 26)]) (rest := [.long (lN (d 7).toNat)]) (wc := []) (wr := [(o, .inr (6, mo a sz le ib mn pl at_ wr wh db)), (a 15, .inl (aI g, 2112, .inl (nf P))), (a 17, .inl (aJ g, 64, .inr (.inl (lf64 (bn cK))))), (a 19, .inl (aJ g, 64, .inr (.inl (lf64 (bn W))))), (a 20, .inl (aJ g, 8, .inr (.inl (lf64 (bn H))))), (a 22, .inl (aJ g, 10, .inr (.inl (lf64 (mx d Y)))))]) C (c_Mod_turn (kl κ) g (d 4) 26 6 rfl (by decide) (by decide)) Y_Mod_turn ml_Mod_114 sta_Mod_turn rfl ⟨by decide, by decide⟩ rfl (Nat.le_of_ble_eq_true rfl) (j_sb [0, 1, 2, 3, 4, 5] rfl rfl) rfl d_Mod_block_224 (fun r w1 hO => ?_)
      obtain ⟨rfl, rfl⟩ := hO
      show j_V g κ 0 0 227 [(5, .long (lN (d 0).toNat)), (3, .long (lN (d 4).toNat)), (0, .ref o), (1, .int (nI (c * 64))), (2, .int (nI i))] [.long (lN ((d 4).rotateRight 6).toNat), .long (lN (d 7).toNat)] ([(o, .inr (6, mo a sz le ib mn pl at_ wr wh db)), (a 15, .inl (aI g, 2112, .inl (nf P))), (a 17, .inl (aJ g, 64, .inr (.inl (lf64 (bn cK))))), (a 19, .inl (aJ g, 64, .inr (.inl (lf64 (bn W))))), (a 20, .inl (aJ g, 8, .inr (.inl (lf64 (bn H))))), (a 22, .inl (aJ g, 10, .inr (.inl (lf64 (mx d Y)))))])
      refine j_lload_n (pc := 227) C d_Mod_block_227 rfl 1 rfl ?_
      refine j_bipush (pc := 228) (v := nI 21) C d_Mod_block_228 (by decide) ?_
      refine j_callS (pc := 230) (As := [.long (lN (d 4).toNat), .int (nI 21)]) (rest := [.long (lN ((d 4).rotateRight 6).toNat), .long (lN (d 7).toNat)]) (wc := []) (wr := [(o, .inr (6, mo a sz le ib mn pl at_ wr wh db)), (a 15, .inl (aI g, 2112, .inl (nf P))), (a 17, .inl (aJ g, 64, .inr (.inl (lf64 (bn cK))))), (a 19, .inl (aJ g, 64, .inr (.inl (lf64 (bn W))))), (a 20, .inl (aJ g, 8, .inr (.inl (lf64 (bn H))))), (a 22, .inl (aJ g, 10, .inr (.inl (lf64 (mx d Y)))))]) C (c_Mod_turn (kl κ) g (d 4) 21 11 rfl (by decide) (by decide)) Y_Mod_turn ml_Mod_114 sta_Mod_turn rfl ⟨by decide, by decide⟩ rfl (Nat.le_of_ble_eq_true rfl) (j_sb [0, 1, 2, 3, 4, 5] rfl rfl) rfl d_Mod_block_230 (fun r w1 hO => ?_)
      obtain ⟨rfl, rfl⟩ := hO
      show j_V g κ 0 0 233 [(5, .long (lN (d 0).toNat)), (3, .long (lN (d 4).toNat)), (0, .ref o), (1, .int (nI (c * 64))), (2, .int (nI i))] [.long (lN ((d 4).rotateRight 11).toNat), .long (lN ((d 4).rotateRight 6).toNat), .long (lN (d 7).toNat)] ([(o, .inr (6, mo a sz le ib mn pl at_ wr wh db)), (a 15, .inl (aI g, 2112, .inl (nf P))), (a 17, .inl (aJ g, 64, .inr (.inl (lf64 (bn cK))))), (a 19, .inl (aJ g, 64, .inr (.inl (lf64 (bn W))))), (a 20, .inl (aJ g, 8, .inr (.inl (lf64 (bn H))))), (a 22, .inl (aJ g, 10, .inr (.inl (lf64 (mx d Y)))))])
      refine j_lxorW (pc := 233) C d_Mod_block_233 ?_
      refine j_lload_n (pc := 234) C d_Mod_block_234 rfl 1 rfl ?_
      refine j_bipush (pc := 235) (v := nI 7) C d_Mod_block_235 (by decide) ?_
      refine j_callS (pc := 237) (As := [.long (lN (d 4).toNat), .int (nI 7)]) (rest := [.long (lN (((d 4).rotateRight 6) ^^^ ((d 4).rotateRight 11)).toNat), .long (lN (d 7).toNat)]) (wc := []) (wr := [(o, .inr (6, mo a sz le ib mn pl at_ wr wh db)), (a 15, .inl (aI g, 2112, .inl (nf P))), (a 17, .inl (aJ g, 64, .inr (.inl (lf64 (bn cK))))), (a 19, .inl (aJ g, 64, .inr (.inl (lf64 (bn W))))), (a 20, .inl (aJ g, 8, .inr (.inl (lf64 (bn H))))), (a 22, .inl (aJ g, 10, .inr (.inl (lf64 (mx d Y)))))]) C (c_Mod_turn (kl κ) g (d 4) 7 25 rfl (by decide) (by decide)) Y_Mod_turn ml_Mod_114 sta_Mod_turn rfl ⟨by decide, by decide⟩ rfl (Nat.le_of_ble_eq_true rfl) (j_sb [0, 1, 2, 3, 4, 5] rfl rfl) rfl d_Mod_block_237 (fun r w1 hO => ?_)
      obtain ⟨rfl, rfl⟩ := hO
      show j_V g κ 0 0 240 [(5, .long (lN (d 0).toNat)), (3, .long (lN (d 4).toNat)), (0, .ref o), (1, .int (nI (c * 64))), (2, .int (nI i))] [.long (lN ((d 4).rotateRight 25).toNat), .long (lN (((d 4).rotateRight 6) ^^^ ((d 4).rotateRight 11)).toNat), .long (lN (d 7).toNat)] ([(o, .inr (6, mo a sz le ib mn pl at_ wr wh db)), (a 15, .inl (aI g, 2112, .inl (nf P))), (a 17, .inl (aJ g, 64, .inr (.inl (lf64 (bn cK))))), (a 19, .inl (aJ g, 64, .inr (.inl (lf64 (bn W))))), (a 20, .inl (aJ g, 8, .inr (.inl (lf64 (bn H))))), (a 22, .inl (aJ g, 10, .inr (.inl (lf64 (mx d Y)))))])
      refine j_lxorW (pc := 240) C d_Mod_block_240 ?_
      refine j_laddN (pc := 241) C d_Mod_block_241 ?_
      refine j_lload_n (pc := 242) C d_Mod_block_242 rfl 1 rfl ?_
      refine j_aload_n (pc := 243) C d_Mod_block_243 rfl 2 rfl ?_
      refine j_get (pc := 244) C F_Mod_81 0 rfl rfl d_Mod_block_244 ?_
      refine j_iconst (pc := 247) (v := nI 5) C d_Mod_block_247 (by decide) ?_
      refine j_laldN (pc := 248) C 5 3 rfl rfl (by omega) (by omega) d_Mod_block_248 ?_
      refine j_landW (pc := 249) C d_Mod_block_249 ?_
      refine j_lload_n (pc := 250) C d_Mod_block_250 rfl 1 rfl ?_
      refine j_callS (pc := 251) (As := [.long (lN (d 4).toNat)]) (rest := [.long (lN ((d 4) &&& (d 5)).toNat), .long (lN (((d 7).toNat) + (((((d 4).rotateRight 6) ^^^ ((d 4).rotateRight 11)) ^^^ ((d 4).rotateRight 25)).toNat)))]) (wc := []) (wr := [(o, .inr (6, mo a sz le ib mn pl at_ wr wh db)), (a 15, .inl (aI g, 2112, .inl (nf P))), (a 17, .inl (aJ g, 64, .inr (.inl (lf64 (bn cK))))), (a 19, .inl (aJ g, 64, .inr (.inl (lf64 (bn W))))), (a 20, .inl (aJ g, 8, .inr (.inl (lf64 (bn H))))), (a 22, .inl (aJ g, 10, .inr (.inl (lf64 (mx d Y)))))]) C (c_Mod_not (kl κ) g (d 4)) Y_Mod_not ml_Mod_120 sta_Mod_not rfl ⟨by decide, by decide⟩ rfl (Nat.le_of_ble_eq_true rfl) (j_sb [0, 1, 2, 3, 4, 5] rfl rfl) rfl d_Mod_block_251 (fun r w1 hO => ?_)
      obtain ⟨rfl, rfl⟩ := hO
      show j_V g κ 0 0 254 [(5, .long (lN (d 0).toNat)), (3, .long (lN (d 4).toNat)), (0, .ref o), (1, .int (nI (c * 64))), (2, .int (nI i))] [.long (lN (~~~ (d 4)).toNat), .long (lN ((d 4) &&& (d 5)).toNat), .long (lN (((d 7).toNat) + (((((d 4).rotateRight 6) ^^^ ((d 4).rotateRight 11)) ^^^ ((d 4).rotateRight 25)).toNat)))] ([(o, .inr (6, mo a sz le ib mn pl at_ wr wh db)), (a 15, .inl (aI g, 2112, .inl (nf P))), (a 17, .inl (aJ g, 64, .inr (.inl (lf64 (bn cK))))), (a 19, .inl (aJ g, 64, .inr (.inl (lf64 (bn W))))), (a 20, .inl (aJ g, 8, .inr (.inl (lf64 (bn H))))), (a 22, .inl (aJ g, 10, .inr (.inl (lf64 (mx d Y)))))])
      refine j_aload_n (pc := 254) C d_Mod_block_254 rfl 2 rfl ?_
      refine j_get (pc := 255) C F_Mod_81 0 rfl rfl d_Mod_block_255 ?_
      refine j_bipush (pc := 258) (v := nI 6) C d_Mod_block_258 (by decide) ?_
      refine j_laldN (pc := 260) C 5 3 rfl rfl (by omega) (by omega) d_Mod_block_260 ?_
      refine j_landW (pc := 261) C d_Mod_block_261 ?_
      refine j_lxorW (pc := 262) C d_Mod_block_262 ?_
      refine j_laddN (pc := 263) C d_Mod_block_263 ?_
      refine j_aload_n (pc := 264) C d_Mod_block_264 rfl 2 rfl ?_
      refine j_get (pc := 265) C F_Mod_65 0 rfl rfl d_Mod_block_265 ?_
      refine j_iload_n (pc := 268) C d_Mod_block_268 rfl 4 rfl ?_
      refine j_laldN (pc := 269) C 2 3 rfl rfl (by omega) (by omega) d_Mod_block_269 ?_
      refine j_laddN (pc := 270) C d_Mod_block_270 ?_
      refine j_aload_n (pc := 271) C d_Mod_block_271 rfl 2 rfl ?_
      refine j_get (pc := 272) C F_Mod_72 0 rfl rfl d_Mod_block_272 ?_
      refine j_iload_n (pc := 275) C d_Mod_block_275 rfl 4 rfl ?_
      refine j_laldN (pc := 276) C 3 3 rfl rfl (by omega) (by omega) d_Mod_block_276 ?_
      refine j_laddN (pc := 277) C d_Mod_block_277 ?_
      refine j_lstore (pc := 278) (lv' := [(7, .long (lN ((((((d 7).toNat) + (((((d 4).rotateRight 6) ^^^ ((d 4).rotateRight 11)) ^^^ ((d 4).rotateRight 25)).toNat)) + ((((d 4) &&& (d 5)) ^^^ ((~~~ (d 4)) &&& (d 6))).toNat)) + ((cK i).toNat)) + ((W i).toNat)))), (5, .long (lN (d 0).toNat)), (3, .long (lN (d 4).toNat)), (0, .ref o), (1, .int (nI (c * 64))), (2, .int (nI i))]) C d_Mod_block_278 (by decide) rfl ?_
      refine j_lload (pc := 280) C d_Mod_block_280 1 rfl ?_
      refine j_bipush (pc := 282) (v := nI 30) C d_Mod_block_282 (by decide) ?_
      refine j_callS (pc := 284) (As := [.long (lN (d 0).toNat), .int (nI 30)]) (rest := []) (wc := []) (wr := [(o, .inr (6, mo a sz le ib mn pl at_ wr wh db)), (a 15, .inl (aI g, 2112, .inl (nf P))), (a 17, .inl (aJ g, 64, .inr (.inl (lf64 (bn cK))))), (a 19, .inl (aJ g, 64, .inr (.inl (lf64 (bn W))))), (a 20, .inl (aJ g, 8, .inr (.inl (lf64 (bn H))))), (a 22, .inl (aJ g, 10, .inr (.inl (lf64 (mx d Y)))))]) C (c_Mod_turn (kl κ) g (d 0) 30 2 rfl (by decide) (by decide)) Y_Mod_turn ml_Mod_114 sta_Mod_turn rfl ⟨by decide, by decide⟩ rfl (Nat.le_of_ble_eq_true rfl) (j_sb [0, 1, 2, 3, 4, 5] rfl rfl) rfl d_Mod_block_284 (fun r w1 hO => ?_)
      obtain ⟨rfl, rfl⟩ := hO
      show j_V g κ 0 0 287 [(7, .long (lN ((((((d 7).toNat) + (((((d 4).rotateRight 6) ^^^ ((d 4).rotateRight 11)) ^^^ ((d 4).rotateRight 25)).toNat)) + ((((d 4) &&& (d 5)) ^^^ ((~~~ (d 4)) &&& (d 6))).toNat)) + ((cK i).toNat)) + ((W i).toNat)))), (5, .long (lN (d 0).toNat)), (3, .long (lN (d 4).toNat)), (0, .ref o), (1, .int (nI (c * 64))), (2, .int (nI i))] [.long (lN ((d 0).rotateRight 2).toNat)] ([(o, .inr (6, mo a sz le ib mn pl at_ wr wh db)), (a 15, .inl (aI g, 2112, .inl (nf P))), (a 17, .inl (aJ g, 64, .inr (.inl (lf64 (bn cK))))), (a 19, .inl (aJ g, 64, .inr (.inl (lf64 (bn W))))), (a 20, .inl (aJ g, 8, .inr (.inl (lf64 (bn H))))), (a 22, .inl (aJ g, 10, .inr (.inl (lf64 (mx d Y)))))])
      refine j_lload (pc := 287) C d_Mod_block_287 1 rfl ?_
      refine j_bipush (pc := 289) (v := nI 19) C d_Mod_block_289 (by decide) ?_
      refine j_callS (pc := 291) (As := [.long (lN (d 0).toNat), .int (nI 19)]) (rest := [.long (lN ((d 0).rotateRight 2).toNat)]) (wc := []) (wr := [(o, .inr (6, mo a sz le ib mn pl at_ wr wh db)), (a 15, .inl (aI g, 2112, .inl (nf P))), (a 17, .inl (aJ g, 64, .inr (.inl (lf64 (bn cK))))), (a 19, .inl (aJ g, 64, .inr (.inl (lf64 (bn W))))), (a 20, .inl (aJ g, 8, .inr (.inl (lf64 (bn H))))), (a 22, .inl (aJ g, 10, .inr (.inl (lf64 (mx d Y)))))]) C (c_Mod_turn (kl κ) g (d 0) 19 13 rfl (by decide) (by decide)) Y_Mod_turn ml_Mod_114 sta_Mod_turn rfl ⟨by decide, by decide⟩ rfl (Nat.le_of_ble_eq_true rfl) (j_sb [0, 1, 2, 3, 4, 5] rfl rfl) rfl d_Mod_block_291 (fun r w1 hO => ?_)
      obtain ⟨rfl, rfl⟩ := hO
      show j_V g κ 0 0 294 [(7, .long (lN ((((((d 7).toNat) + (((((d 4).rotateRight 6) ^^^ ((d 4).rotateRight 11)) ^^^ ((d 4).rotateRight 25)).toNat)) + ((((d 4) &&& (d 5)) ^^^ ((~~~ (d 4)) &&& (d 6))).toNat)) + ((cK i).toNat)) + ((W i).toNat)))), (5, .long (lN (d 0).toNat)), (3, .long (lN (d 4).toNat)), (0, .ref o), (1, .int (nI (c * 64))), (2, .int (nI i))] [.long (lN ((d 0).rotateRight 13).toNat), .long (lN ((d 0).rotateRight 2).toNat)] ([(o, .inr (6, mo a sz le ib mn pl at_ wr wh db)), (a 15, .inl (aI g, 2112, .inl (nf P))), (a 17, .inl (aJ g, 64, .inr (.inl (lf64 (bn cK))))), (a 19, .inl (aJ g, 64, .inr (.inl (lf64 (bn W))))), (a 20, .inl (aJ g, 8, .inr (.inl (lf64 (bn H))))), (a 22, .inl (aJ g, 10, .inr (.inl (lf64 (mx d Y)))))])
      refine j_lxorW (pc := 294) C d_Mod_block_294 ?_
      refine j_lload (pc := 295) C d_Mod_block_295 1 rfl ?_
      refine j_bipush (pc := 297) (v := nI 10) C d_Mod_block_297 (by decide) ?_
      refine j_callS (pc := 299) (As := [.long (lN (d 0).toNat), .int (nI 10)]) (rest := [.long (lN (((d 0).rotateRight 2) ^^^ ((d 0).rotateRight 13)).toNat)]) (wc := []) (wr := [(o, .inr (6, mo a sz le ib mn pl at_ wr wh db)), (a 15, .inl (aI g, 2112, .inl (nf P))), (a 17, .inl (aJ g, 64, .inr (.inl (lf64 (bn cK))))), (a 19, .inl (aJ g, 64, .inr (.inl (lf64 (bn W))))), (a 20, .inl (aJ g, 8, .inr (.inl (lf64 (bn H))))), (a 22, .inl (aJ g, 10, .inr (.inl (lf64 (mx d Y)))))]) C (c_Mod_turn (kl κ) g (d 0) 10 22 rfl (by decide) (by decide)) Y_Mod_turn ml_Mod_114 sta_Mod_turn rfl ⟨by decide, by decide⟩ rfl (Nat.le_of_ble_eq_true rfl) (j_sb [0, 1, 2, 3, 4, 5] rfl rfl) rfl d_Mod_block_299 (fun r w1 hO => ?_)
      obtain ⟨rfl, rfl⟩ := hO
      show j_V g κ 0 0 302 [(7, .long (lN ((((((d 7).toNat) + (((((d 4).rotateRight 6) ^^^ ((d 4).rotateRight 11)) ^^^ ((d 4).rotateRight 25)).toNat)) + ((((d 4) &&& (d 5)) ^^^ ((~~~ (d 4)) &&& (d 6))).toNat)) + ((cK i).toNat)) + ((W i).toNat)))), (5, .long (lN (d 0).toNat)), (3, .long (lN (d 4).toNat)), (0, .ref o), (1, .int (nI (c * 64))), (2, .int (nI i))] [.long (lN ((d 0).rotateRight 22).toNat), .long (lN (((d 0).rotateRight 2) ^^^ ((d 0).rotateRight 13)).toNat)] ([(o, .inr (6, mo a sz le ib mn pl at_ wr wh db)), (a 15, .inl (aI g, 2112, .inl (nf P))), (a 17, .inl (aJ g, 64, .inr (.inl (lf64 (bn cK))))), (a 19, .inl (aJ g, 64, .inr (.inl (lf64 (bn W))))), (a 20, .inl (aJ g, 8, .inr (.inl (lf64 (bn H))))), (a 22, .inl (aJ g, 10, .inr (.inl (lf64 (mx d Y)))))])
      refine j_lxorW (pc := 302) C d_Mod_block_302 ?_
      refine j_lload (pc := 303) C d_Mod_block_303 1 rfl ?_
      refine j_aload_n (pc := 305) C d_Mod_block_305 rfl 3 rfl ?_
      refine j_get (pc := 306) C F_Mod_81 0 rfl rfl d_Mod_block_306 ?_
      refine j_iconst (pc := 309) (v := nI 1) C d_Mod_block_309 (by decide) ?_
      refine j_laldN (pc := 310) C 5 3 rfl rfl (by omega) (by omega) d_Mod_block_310 ?_
      refine j_landW (pc := 311) C d_Mod_block_311 ?_
      refine j_lload (pc := 312) C d_Mod_block_312 1 rfl ?_
      refine j_aload_n (pc := 314) C d_Mod_block_314 rfl 3 rfl ?_
      refine j_get (pc := 315) C F_Mod_81 0 rfl rfl d_Mod_block_315 ?_
      refine j_iconst (pc := 318) (v := nI 2) C d_Mod_block_318 (by decide) ?_
      refine j_laldN (pc := 319) C 5 3 rfl rfl (by omega) (by omega) d_Mod_block_319 ?_
      refine j_landW (pc := 320) C d_Mod_block_320 ?_
      refine j_lxorW (pc := 321) C d_Mod_block_321 ?_
      refine j_aload_n (pc := 322) C d_Mod_block_322 rfl 3 rfl ?_
      refine j_get (pc := 323) C F_Mod_81 0 rfl rfl d_Mod_block_323 ?_
      refine j_iconst (pc := 326) (v := nI 1) C d_Mod_block_326 (by decide) ?_
      refine j_laldN (pc := 327) C 5 3 rfl rfl (by omega) (by omega) d_Mod_block_327 ?_
      refine j_aload_n (pc := 328) C d_Mod_block_328 rfl 3 rfl ?_
      refine j_get (pc := 329) C F_Mod_81 0 rfl rfl d_Mod_block_329 ?_
      refine j_iconst (pc := 332) (v := nI 2) C d_Mod_block_332 (by decide) ?_
      refine j_laldN (pc := 333) C 5 3 rfl rfl (by omega) (by omega) d_Mod_block_333 ?_
      refine j_landW (pc := 334) C d_Mod_block_334 ?_
      refine j_lxorW (pc := 335) C d_Mod_block_335 ?_
      refine j_laddN (pc := 336) C d_Mod_block_336 ?_
      refine j_lstore (pc := 337) (lv' := [(9, .long (lN ((((((d 0).rotateRight 2) ^^^ ((d 0).rotateRight 13)) ^^^ ((d 0).rotateRight 22)).toNat) + (((((d 0) &&& (d 1)) ^^^ ((d 0) &&& (d 2))) ^^^ ((d 1) &&& (d 2))).toNat)))), (7, .long (lN ((((((d 7).toNat) + (((((d 4).rotateRight 6) ^^^ ((d 4).rotateRight 11)) ^^^ ((d 4).rotateRight 25)).toNat)) + ((((d 4) &&& (d 5)) ^^^ ((~~~ (d 4)) &&& (d 6))).toNat)) + ((cK i).toNat)) + ((W i).toNat)))), (5, .long (lN (d 0).toNat)), (3, .long (lN (d 4).toNat)), (0, .ref o), (1, .int (nI (c * 64))), (2, .int (nI i))]) C d_Mod_block_337 (by decide) rfl ?_
      refine j_bipush (pc := 339) (v := nI 7) C d_Mod_block_339 (by decide) ?_
      refine j_istore (pc := 341) (lv' := [(11, .int (nI 7)), (9, .long (lN ((((((d 0).rotateRight 2) ^^^ ((d 0).rotateRight 13)) ^^^ ((d 0).rotateRight 22)).toNat) + (((((d 0) &&& (d 1)) ^^^ ((d 0) &&& (d 2))) ^^^ ((d 1) &&& (d 2))).toNat)))), (7, .long (lN ((((((d 7).toNat) + (((((d 4).rotateRight 6) ^^^ ((d 4).rotateRight 11)) ^^^ ((d 4).rotateRight 25)).toNat)) + ((((d 4) &&& (d 5)) ^^^ ((~~~ (d 4)) &&& (d 6))).toNat)) + ((cK i).toNat)) + ((W i).toNat)))), (5, .long (lN (d 0).toNat)), (3, .long (lN (d 4).toNat)), (0, .ref o), (1, .int (nI (c * 64))), (2, .int (nI i))]) C d_Mod_block_341 (by decide) rfl ?_
      refine j_iload (pc := 343) C d_Mod_block_343 0 rfl ?_
      refine j_if_leN (pc := 345) (tgt := 370) C (by omega) d_Mod_block_345 rfl (fun c345 => ?_) (fun c345 => ?_)
      · exfalso; omega
      · skip
        refine j_aload_n (pc := 348) C d_Mod_block_348 rfl 5 rfl ?_
        refine j_get (pc := 349) C F_Mod_81 0 rfl rfl d_Mod_block_349 ?_
        refine j_iload (pc := 352) C d_Mod_block_352 0 rfl ?_
        refine j_aload_n (pc := 354) C d_Mod_block_354 rfl 5 rfl ?_
        refine j_get (pc := 355) C F_Mod_81 0 rfl rfl d_Mod_block_355 ?_
        refine j_iload (pc := 358) C d_Mod_block_358 0 rfl ?_
        refine j_iconst (pc := 360) (v := nI 1) C d_Mod_block_360 (by decide) ?_
        refine j_isubN (pc := 361) C (by omega) d_Mod_block_361 ?_
        refine j_laldN (pc := 362) C 5 3 rfl rfl (by omega) (by omega) d_Mod_block_362 ?_
        refine j_lastX (pc := 363) (ws' := [(o, .inr (6, mo a sz le ib mn pl at_ wr wh db)), (a 15, .inl (aI g, 2112, .inl (nf P))), (a 17, .inl (aJ g, 64, .inr (.inl (lf64 (bn cK))))), (a 19, .inl (aJ g, 64, .inr (.inl (lf64 (bn W))))), (a 20, .inl (aJ g, 8, .inr (.inl (lf64 (bn H))))), (a 22, .inl (aJ g, 10, .inr (.inl (lf64 (mx (va_up d 7 (d 6)) Y)))))]) C 5 3 rfl rfl (by decide) (by decide) rfl d_Mod_block_363 ?_
        refine j_iinc (pc := 364) (k := 0) (v := nI 6) (lv' := [(11, .int (nI 6)), (9, .long (lN ((((((d 0).rotateRight 2) ^^^ ((d 0).rotateRight 13)) ^^^ ((d 0).rotateRight 22)).toNat) + (((((d 0) &&& (d 1)) ^^^ ((d 0) &&& (d 2))) ^^^ ((d 1) &&& (d 2))).toNat)))), (7, .long (lN ((((((d 7).toNat) + (((((d 4).rotateRight 6) ^^^ ((d 4).rotateRight 11)) ^^^ ((d 4).rotateRight 25)).toNat)) + ((((d 4) &&& (d 5)) ^^^ ((~~~ (d 4)) &&& (d 6))).toNat)) + ((cK i).toNat)) + ((W i).toNat)))), (5, .long (lN (d 0).toNat)), (3, .long (lN (d 4).toNat)), (0, .ref o), (1, .int (nI (c * 64))), (2, .int (nI i))]) C d_Mod_block_364 rfl (by decide) (by decide) rfl ?_
        refine j_goto (pc := 367) (tgt := 343) C d_Mod_block_367 rfl ?_
        refine j_iload (pc := 343) C d_Mod_block_343 0 rfl ?_
        refine j_if_leN (pc := 345) (tgt := 370) C (by omega) d_Mod_block_345 rfl (fun c345 => ?_) (fun c345 => ?_)
        · exfalso; omega
        · skip
          refine j_aload_n (pc := 348) C d_Mod_block_348 rfl 5 rfl ?_
          refine j_get (pc := 349) C F_Mod_81 0 rfl rfl d_Mod_block_349 ?_
          refine j_iload (pc := 352) C d_Mod_block_352 0 rfl ?_
          refine j_aload_n (pc := 354) C d_Mod_block_354 rfl 5 rfl ?_
          refine j_get (pc := 355) C F_Mod_81 0 rfl rfl d_Mod_block_355 ?_
          refine j_iload (pc := 358) C d_Mod_block_358 0 rfl ?_
          refine j_iconst (pc := 360) (v := nI 1) C d_Mod_block_360 (by decide) ?_
          refine j_isubN (pc := 361) C (by omega) d_Mod_block_361 ?_
          refine j_laldN (pc := 362) C 5 3 rfl rfl (by omega) (by omega) d_Mod_block_362 ?_
          refine j_lastX (pc := 363) (ws' := [(o, .inr (6, mo a sz le ib mn pl at_ wr wh db)), (a 15, .inl (aI g, 2112, .inl (nf P))), (a 17, .inl (aJ g, 64, .inr (.inl (lf64 (bn cK))))), (a 19, .inl (aJ g, 64, .inr (.inl (lf64 (bn W))))), (a 20, .inl (aJ g, 8, .inr (.inl (lf64 (bn H))))), (a 22, .inl (aJ g, 10, .inr (.inl (lf64 (mx (va_up (va_up d 7 (d 6)) 6 (d 5)) Y)))))]) C 5 3 rfl rfl (by decide) (by decide) rfl d_Mod_block_363 ?_
          refine j_iinc (pc := 364) (k := 0) (v := nI 5) (lv' := [(11, .int (nI 5)), (9, .long (lN ((((((d 0).rotateRight 2) ^^^ ((d 0).rotateRight 13)) ^^^ ((d 0).rotateRight 22)).toNat) + (((((d 0) &&& (d 1)) ^^^ ((d 0) &&& (d 2))) ^^^ ((d 1) &&& (d 2))).toNat)))), (7, .long (lN ((((((d 7).toNat) + (((((d 4).rotateRight 6) ^^^ ((d 4).rotateRight 11)) ^^^ ((d 4).rotateRight 25)).toNat)) + ((((d 4) &&& (d 5)) ^^^ ((~~~ (d 4)) &&& (d 6))).toNat)) + ((cK i).toNat)) + ((W i).toNat)))), (5, .long (lN (d 0).toNat)), (3, .long (lN (d 4).toNat)), (0, .ref o), (1, .int (nI (c * 64))), (2, .int (nI i))]) C d_Mod_block_364 rfl (by decide) (by decide) rfl ?_
          refine j_goto (pc := 367) (tgt := 343) C d_Mod_block_367 rfl ?_
          refine j_iload (pc := 343) C d_Mod_block_343 0 rfl ?_
          refine j_if_leN (pc := 345) (tgt := 370) C (by omega) d_Mod_block_345 rfl (fun c345 => ?_) (fun c345 => ?_)
          · exfalso; omega
          · skip
            refine j_aload_n (pc := 348) C d_Mod_block_348 rfl 5 rfl ?_
            refine j_get (pc := 349) C F_Mod_81 0 rfl rfl d_Mod_block_349 ?_
            refine j_iload (pc := 352) C d_Mod_block_352 0 rfl ?_
            refine j_aload_n (pc := 354) C d_Mod_block_354 rfl 5 rfl ?_
            refine j_get (pc := 355) C F_Mod_81 0 rfl rfl d_Mod_block_355 ?_
            refine j_iload (pc := 358) C d_Mod_block_358 0 rfl ?_
            refine j_iconst (pc := 360) (v := nI 1) C d_Mod_block_360 (by decide) ?_
            refine j_isubN (pc := 361) C (by omega) d_Mod_block_361 ?_
            refine j_laldN (pc := 362) C 5 3 rfl rfl (by omega) (by omega) d_Mod_block_362 ?_
            refine j_lastX (pc := 363) (ws' := [(o, .inr (6, mo a sz le ib mn pl at_ wr wh db)), (a 15, .inl (aI g, 2112, .inl (nf P))), (a 17, .inl (aJ g, 64, .inr (.inl (lf64 (bn cK))))), (a 19, .inl (aJ g, 64, .inr (.inl (lf64 (bn W))))), (a 20, .inl (aJ g, 8, .inr (.inl (lf64 (bn H))))), (a 22, .inl (aJ g, 10, .inr (.inl (lf64 (mx (va_up (va_up (va_up d 7 (d 6)) 6 (d 5)) 5 (d 4)) Y)))))]) C 5 3 rfl rfl (by decide) (by decide) rfl d_Mod_block_363 ?_
            refine j_iinc (pc := 364) (k := 0) (v := nI 4) (lv' := [(11, .int (nI 4)), (9, .long (lN ((((((d 0).rotateRight 2) ^^^ ((d 0).rotateRight 13)) ^^^ ((d 0).rotateRight 22)).toNat) + (((((d 0) &&& (d 1)) ^^^ ((d 0) &&& (d 2))) ^^^ ((d 1) &&& (d 2))).toNat)))), (7, .long (lN ((((((d 7).toNat) + (((((d 4).rotateRight 6) ^^^ ((d 4).rotateRight 11)) ^^^ ((d 4).rotateRight 25)).toNat)) + ((((d 4) &&& (d 5)) ^^^ ((~~~ (d 4)) &&& (d 6))).toNat)) + ((cK i).toNat)) + ((W i).toNat)))), (5, .long (lN (d 0).toNat)), (3, .long (lN (d 4).toNat)), (0, .ref o), (1, .int (nI (c * 64))), (2, .int (nI i))]) C d_Mod_block_364 rfl (by decide) (by decide) rfl ?_
            refine j_goto (pc := 367) (tgt := 343) C d_Mod_block_367 rfl ?_
            refine j_iload (pc := 343) C d_Mod_block_343 0 rfl ?_
            refine j_if_leN (pc := 345) (tgt := 370) C (by omega) d_Mod_block_345 rfl (fun c345 => ?_) (fun c345 => ?_)
            · exfalso; omega
            · skip
              refine j_aload_n (pc := 348) C d_Mod_block_348 rfl 5 rfl ?_
              refine j_get (pc := 349) C F_Mod_81 0 rfl rfl d_Mod_block_349 ?_
              refine j_iload (pc := 352) C d_Mod_block_352 0 rfl ?_
              refine j_aload_n (pc := 354) C d_Mod_block_354 rfl 5 rfl ?_
              refine j_get (pc := 355) C F_Mod_81 0 rfl rfl d_Mod_block_355 ?_
              refine j_iload (pc := 358) C d_Mod_block_358 0 rfl ?_
              refine j_iconst (pc := 360) (v := nI 1) C d_Mod_block_360 (by decide) ?_
              refine j_isubN (pc := 361) C (by omega) d_Mod_block_361 ?_
              refine j_laldN (pc := 362) C 5 3 rfl rfl (by omega) (by omega) d_Mod_block_362 ?_
              refine j_lastX (pc := 363) (ws' := [(o, .inr (6, mo a sz le ib mn pl at_ wr wh db)), (a 15, .inl (aI g, 2112, .inl (nf P))), (a 17, .inl (aJ g, 64, .inr (.inl (lf64 (bn cK))))), (a 19, .inl (aJ g, 64, .inr (.inl (lf64 (bn W))))), (a 20, .inl (aJ g, 8, .inr (.inl (lf64 (bn H))))), (a 22, .inl (aJ g, 10, .inr (.inl (lf64 (mx (va_up (va_up (va_up (va_up d 7 (d 6)) 6 (d 5)) 5 (d 4)) 4 (d 3)) Y)))))]) C 5 3 rfl rfl (by decide) (by decide) rfl d_Mod_block_363 ?_
              refine j_iinc (pc := 364) (k := 0) (v := nI 3) (lv' := [(11, .int (nI 3)), (9, .long (lN ((((((d 0).rotateRight 2) ^^^ ((d 0).rotateRight 13)) ^^^ ((d 0).rotateRight 22)).toNat) + (((((d 0) &&& (d 1)) ^^^ ((d 0) &&& (d 2))) ^^^ ((d 1) &&& (d 2))).toNat)))), (7, .long (lN ((((((d 7).toNat) + (((((d 4).rotateRight 6) ^^^ ((d 4).rotateRight 11)) ^^^ ((d 4).rotateRight 25)).toNat)) + ((((d 4) &&& (d 5)) ^^^ ((~~~ (d 4)) &&& (d 6))).toNat)) + ((cK i).toNat)) + ((W i).toNat)))), (5, .long (lN (d 0).toNat)), (3, .long (lN (d 4).toNat)), (0, .ref o), (1, .int (nI (c * 64))), (2, .int (nI i))]) C d_Mod_block_364 rfl (by decide) (by decide) rfl ?_
              refine j_goto (pc := 367) (tgt := 343) C d_Mod_block_367 rfl ?_
              refine j_iload (pc := 343) C d_Mod_block_343 0 rfl ?_
              refine j_if_leN (pc := 345) (tgt := 370) C (by omega) d_Mod_block_345 rfl (fun c345 => ?_) (fun c345 => ?_)
              · exfalso; omega
              · skip
                refine j_aload_n (pc := 348) C d_Mod_block_348 rfl 5 rfl ?_
                refine j_get (pc := 349) C F_Mod_81 0 rfl rfl d_Mod_block_349 ?_
                refine j_iload (pc := 352) C d_Mod_block_352 0 rfl ?_
                refine j_aload_n (pc := 354) C d_Mod_block_354 rfl 5 rfl ?_
                refine j_get (pc := 355) C F_Mod_81 0 rfl rfl d_Mod_block_355 ?_
                refine j_iload (pc := 358) C d_Mod_block_358 0 rfl ?_
                refine j_iconst (pc := 360) (v := nI 1) C d_Mod_block_360 (by decide) ?_
                refine j_isubN (pc := 361) C (by omega) d_Mod_block_361 ?_
                refine j_laldN (pc := 362) C 5 3 rfl rfl (by omega) (by omega) d_Mod_block_362 ?_
                refine j_lastX (pc := 363) (ws' := [(o, .inr (6, mo a sz le ib mn pl at_ wr wh db)), (a 15, .inl (aI g, 2112, .inl (nf P))), (a 17, .inl (aJ g, 64, .inr (.inl (lf64 (bn cK))))), (a 19, .inl (aJ g, 64, .inr (.inl (lf64 (bn W))))), (a 20, .inl (aJ g, 8, .inr (.inl (lf64 (bn H))))), (a 22, .inl (aJ g, 10, .inr (.inl (lf64 (mx (va_up (va_up (va_up (va_up (va_up d 7 (d 6)) 6 (d 5)) 5 (d 4)) 4 (d 3)) 3 (d 2)) Y)))))]) C 5 3 rfl rfl (by decide) (by decide) rfl d_Mod_block_363 ?_
                refine j_iinc (pc := 364) (k := 0) (v := nI 2) (lv' := [(11, .int (nI 2)), (9, .long (lN ((((((d 0).rotateRight 2) ^^^ ((d 0).rotateRight 13)) ^^^ ((d 0).rotateRight 22)).toNat) + (((((d 0) &&& (d 1)) ^^^ ((d 0) &&& (d 2))) ^^^ ((d 1) &&& (d 2))).toNat)))), (7, .long (lN ((((((d 7).toNat) + (((((d 4).rotateRight 6) ^^^ ((d 4).rotateRight 11)) ^^^ ((d 4).rotateRight 25)).toNat)) + ((((d 4) &&& (d 5)) ^^^ ((~~~ (d 4)) &&& (d 6))).toNat)) + ((cK i).toNat)) + ((W i).toNat)))), (5, .long (lN (d 0).toNat)), (3, .long (lN (d 4).toNat)), (0, .ref o), (1, .int (nI (c * 64))), (2, .int (nI i))]) C d_Mod_block_364 rfl (by decide) (by decide) rfl ?_
                refine j_goto (pc := 367) (tgt := 343) C d_Mod_block_367 rfl ?_
                refine j_iload (pc := 343) C d_Mod_block_343 0 rfl ?_
                refine j_if_leN (pc := 345) (tgt := 370) C (by omega) d_Mod_block_345 rfl (fun c345 => ?_) (fun c345 => ?_)
                · exfalso; omega
                · skip
                  refine j_aload_n (pc := 348) C d_Mod_block_348 rfl 5 rfl ?_
                  refine j_get (pc := 349) C F_Mod_81 0 rfl rfl d_Mod_block_349 ?_
                  refine j_iload (pc := 352) C d_Mod_block_352 0 rfl ?_
                  refine j_aload_n (pc := 354) C d_Mod_block_354 rfl 5 rfl ?_
                  refine j_get (pc := 355) C F_Mod_81 0 rfl rfl d_Mod_block_355 ?_
                  refine j_iload (pc := 358) C d_Mod_block_358 0 rfl ?_
                  refine j_iconst (pc := 360) (v := nI 1) C d_Mod_block_360 (by decide) ?_
                  refine j_isubN (pc := 361) C (by omega) d_Mod_block_361 ?_
                  refine j_laldN (pc := 362) C 5 3 rfl rfl (by omega) (by omega) d_Mod_block_362 ?_
                  refine j_lastX (pc := 363) (ws' := [(o, .inr (6, mo a sz le ib mn pl at_ wr wh db)), (a 15, .inl (aI g, 2112, .inl (nf P))), (a 17, .inl (aJ g, 64, .inr (.inl (lf64 (bn cK))))), (a 19, .inl (aJ g, 64, .inr (.inl (lf64 (bn W))))), (a 20, .inl (aJ g, 8, .inr (.inl (lf64 (bn H))))), (a 22, .inl (aJ g, 10, .inr (.inl (lf64 (mx (va_up (va_up (va_up (va_up (va_up (va_up d 7 (d 6)) 6 (d 5)) 5 (d 4)) 4 (d 3)) 3 (d 2)) 2 (d 1)) Y)))))]) C 5 3 rfl rfl (by decide) (by decide) rfl d_Mod_block_363 ?_
                  refine j_iinc (pc := 364) (k := 0) (v := nI 1) (lv' := [(11, .int (nI 1)), (9, .long (lN ((((((d 0).rotateRight 2) ^^^ ((d 0).rotateRight 13)) ^^^ ((d 0).rotateRight 22)).toNat) + (((((d 0) &&& (d 1)) ^^^ ((d 0) &&& (d 2))) ^^^ ((d 1) &&& (d 2))).toNat)))), (7, .long (lN ((((((d 7).toNat) + (((((d 4).rotateRight 6) ^^^ ((d 4).rotateRight 11)) ^^^ ((d 4).rotateRight 25)).toNat)) + ((((d 4) &&& (d 5)) ^^^ ((~~~ (d 4)) &&& (d 6))).toNat)) + ((cK i).toNat)) + ((W i).toNat)))), (5, .long (lN (d 0).toNat)), (3, .long (lN (d 4).toNat)), (0, .ref o), (1, .int (nI (c * 64))), (2, .int (nI i))]) C d_Mod_block_364 rfl (by decide) (by decide) rfl ?_
                  refine j_goto (pc := 367) (tgt := 343) C d_Mod_block_367 rfl ?_
                  refine j_iload (pc := 343) C d_Mod_block_343 0 rfl ?_
                  refine j_if_leN (pc := 345) (tgt := 370) C (by omega) d_Mod_block_345 rfl (fun c345 => ?_) (fun c345 => ?_)
                  · exfalso; omega
                  · skip
                    refine j_aload_n (pc := 348) C d_Mod_block_348 rfl 5 rfl ?_
                    refine j_get (pc := 349) C F_Mod_81 0 rfl rfl d_Mod_block_349 ?_
                    refine j_iload (pc := 352) C d_Mod_block_352 0 rfl ?_
                    refine j_aload_n (pc := 354) C d_Mod_block_354 rfl 5 rfl ?_
                    refine j_get (pc := 355) C F_Mod_81 0 rfl rfl d_Mod_block_355 ?_
                    refine j_iload (pc := 358) C d_Mod_block_358 0 rfl ?_
                    refine j_iconst (pc := 360) (v := nI 1) C d_Mod_block_360 (by decide) ?_
                    refine j_isubN (pc := 361) C (by omega) d_Mod_block_361 ?_
                    refine j_laldN (pc := 362) C 5 3 rfl rfl (by omega) (by omega) d_Mod_block_362 ?_
                    refine j_lastX (pc := 363) (ws' := [(o, .inr (6, mo a sz le ib mn pl at_ wr wh db)), (a 15, .inl (aI g, 2112, .inl (nf P))), (a 17, .inl (aJ g, 64, .inr (.inl (lf64 (bn cK))))), (a 19, .inl (aJ g, 64, .inr (.inl (lf64 (bn W))))), (a 20, .inl (aJ g, 8, .inr (.inl (lf64 (bn H))))), (a 22, .inl (aJ g, 10, .inr (.inl (lf64 (mx (va_up (va_up (va_up (va_up (va_up (va_up (va_up d 7 (d 6)) 6 (d 5)) 5 (d 4)) 4 (d 3)) 3 (d 2)) 2 (d 1)) 1 (d 0)) Y)))))]) C 5 3 rfl rfl (by decide) (by decide) rfl d_Mod_block_363 ?_
                    refine j_iinc (pc := 364) (k := 0) (v := nI 0) (lv' := [(11, .int (nI 0)), (9, .long (lN ((((((d 0).rotateRight 2) ^^^ ((d 0).rotateRight 13)) ^^^ ((d 0).rotateRight 22)).toNat) + (((((d 0) &&& (d 1)) ^^^ ((d 0) &&& (d 2))) ^^^ ((d 1) &&& (d 2))).toNat)))), (7, .long (lN ((((((d 7).toNat) + (((((d 4).rotateRight 6) ^^^ ((d 4).rotateRight 11)) ^^^ ((d 4).rotateRight 25)).toNat)) + ((((d 4) &&& (d 5)) ^^^ ((~~~ (d 4)) &&& (d 6))).toNat)) + ((cK i).toNat)) + ((W i).toNat)))), (5, .long (lN (d 0).toNat)), (3, .long (lN (d 4).toNat)), (0, .ref o), (1, .int (nI (c * 64))), (2, .int (nI i))]) C d_Mod_block_364 rfl (by decide) (by decide) rfl ?_
                    refine j_goto (pc := 367) (tgt := 343) C d_Mod_block_367 rfl ?_
                    refine j_iload (pc := 343) C d_Mod_block_343 0 rfl ?_
                    refine j_if_leN (pc := 345) (tgt := 370) C (by omega) d_Mod_block_345 rfl (fun c345 => ?_) (fun c345 => ?_)
                    · skip
                      refine j_aload_n (pc := 370) C d_Mod_block_370 rfl 5 rfl ?_
                      refine j_get (pc := 371) C F_Mod_81 0 rfl rfl d_Mod_block_371 ?_
                      refine j_iconst (pc := 374) (v := nI 4) C d_Mod_block_374 (by decide) ?_
                      refine j_aload_n (pc := 375) C d_Mod_block_375 rfl 5 rfl ?_
                      refine j_get (pc := 376) C F_Mod_81 0 rfl rfl d_Mod_block_376 ?_
                      refine j_iconst (pc := 379) (v := nI 4) C d_Mod_block_379 (by decide) ?_
                      refine j_laldN (pc := 380) C 5 3 rfl rfl (by omega) (by omega) d_Mod_block_380 ?_
                      refine j_rwl (y := lN (d 3).toNat) (rfl) ?_
                      refine j_lload (pc := 381) C d_Mod_block_381 2 rfl ?_
                      refine j_laddN (pc := 383) C d_Mod_block_383 ?_
                      refine j_ldc2 (pc := 384) C k_Mod_92 d_Mod_block_384 ?_
                      refine j_rwl (y := lN 4294967296) (rfl) ?_
                      have q1 := (d 7).isLt
                      have q2 := (S1 (d 4)).isLt
                      have q3 := (ch (d 4) (d 5) (d 6)).isLt
                      have q4 := (cK i).isLt
                      have q5 := (W i).isLt
                      have q6 := (d 3).isLt
                      have q7 := (S0 (d 0)).isLt
                      have q8 := (maj (d 0) (d 1) (d 2)).isLt
                      unfold S1 at q2
                      unfold ch at q3
                      unfold S0 at q7
                      unfold maj at q8
                      refine j_lremN (pc := 387) C (by omega) (by omega) (by omega) d_Mod_block_387 ?_
                      refine j_rwl (y := lN (d 3 + t1 (cK i) (W i) d).toNat) (congrArg lN (rd_s4 (d 3) (d 7) (S1 (d 4)) (ch (d 4) (d 5) (d 6)) (cK i) (W i))) ?_
                      refine j_lastX (pc := 388) (ws' := [(o, .inr (6, mo a sz le ib mn pl at_ wr wh db)), (a 15, .inl (aI g, 2112, .inl (nf P))), (a 17, .inl (aJ g, 64, .inr (.inl (lf64 (bn cK))))), (a 19, .inl (aJ g, 64, .inr (.inl (lf64 (bn W))))), (a 20, .inl (aJ g, 8, .inr (.inl (lf64 (bn H))))), (a 22, .inl (aJ g, 10, .inr (.inl (lf64 (mx (va_up (va_up (va_up (va_up (va_up (va_up (va_up (va_up d 7 (d 6)) 6 (d 5)) 5 (d 4)) 4 (d 3)) 3 (d 2)) 2 (d 1)) 1 (d 0)) 4 (d 3 + t1 (cK i) (W i) d)) Y)))))]) C 5 3 rfl rfl (by decide) (by decide) rfl d_Mod_block_388 ?_
                      refine j_aload_n (pc := 389) C d_Mod_block_389 rfl 5 rfl ?_
                      refine j_get (pc := 390) C F_Mod_81 0 rfl rfl d_Mod_block_390 ?_
                      refine j_iconst (pc := 393) (v := nI 0) C d_Mod_block_393 (by decide) ?_
                      refine j_lload (pc := 394) C d_Mod_block_394 2 rfl ?_
                      refine j_lload (pc := 396) C d_Mod_block_396 1 rfl ?_
                      refine j_laddN (pc := 398) C d_Mod_block_398 ?_
                      refine j_ldc2 (pc := 399) C k_Mod_92 d_Mod_block_399 ?_
                      refine j_rwl (y := lN 4294967296) (rfl) ?_
                      refine j_lremN (pc := 402) C (by omega) (by omega) (by omega) d_Mod_block_402 ?_
                      refine j_rwl (y := lN (t1 (cK i) (W i) d + S0 (d 0) + maj (d 0) (d 1) (d 2)).toNat) (congrArg lN (rd_s0 (S0 (d 0)) (maj (d 0) (d 1) (d 2)) (d 7) (S1 (d 4)) (ch (d 4) (d 5) (d 6)) (cK i) (W i))) ?_
                      refine j_lastX (pc := 403) (ws' := [(o, .inr (6, mo a sz le ib mn pl at_ wr wh db)), (a 15, .inl (aI g, 2112, .inl (nf P))), (a 17, .inl (aJ g, 64, .inr (.inl (lf64 (bn cK))))), (a 19, .inl (aJ g, 64, .inr (.inl (lf64 (bn W))))), (a 20, .inl (aJ g, 8, .inr (.inl (lf64 (bn H))))), (a 22, .inl (aJ g, 10, .inr (.inl (lf64 (mx (va_up (va_up (va_up (va_up (va_up (va_up (va_up (va_up (va_up d 7 (d 6)) 6 (d 5)) 5 (d 4)) 4 (d 3)) 3 (d 2)) 2 (d 1)) 1 (d 0)) 4 (d 3 + t1 (cK i) (W i) d)) 0 (t1 (cK i) (W i) d + S0 (d 0) + maj (d 0) (d 1) (d 2))) Y)))))]) C 5 3 rfl rfl (by decide) (by decide) rfl d_Mod_block_403 ?_
                      refine j_iinc (pc := 404) (k := 7) (v := nI (i + 1)) (lv' := [(2, .int (nI (i + 1))), (11, .int (nI 0)), (9, .long (lN ((((((d 0).rotateRight 2) ^^^ ((d 0).rotateRight 13)) ^^^ ((d 0).rotateRight 22)).toNat) + (((((d 0) &&& (d 1)) ^^^ ((d 0) &&& (d 2))) ^^^ ((d 1) &&& (d 2))).toNat)))), (7, .long (lN ((((((d 7).toNat) + (((((d 4).rotateRight 6) ^^^ ((d 4).rotateRight 11)) ^^^ ((d 4).rotateRight 25)).toNat)) + ((((d 4) &&& (d 5)) ^^^ ((~~~ (d 4)) &&& (d 6))).toNat)) + ((cK i).toNat)) + ((W i).toNat)))), (5, .long (lN (d 0).toNat)), (3, .long (lN (d 4).toNat)), (0, .ref o), (1, .int (nI (c * 64)))]) C d_Mod_block_404 rfl (j_inc _ _) (by decide) rfl ?_
                      refine j_goto (pc := 407) (tgt := 193) C d_Mod_block_407 rfl ?_
                      refine j_lv (lv' := [(0, .ref o), (1, .int (nI (c * 64))), (2, .int (nI (i + 1)))]) [6, 7, 0] rfl ?_
                      refine ih (i + 1) _ (by omega) (by omega) (fun j hj => ?_)
                      show _ = rdF (cK i) (W i) (rdN W H i) j
                      rw [← rdF_cg hY j hj]
                      rcases (by omega : j = 0 ∨ j = 1 ∨ j = 2 ∨ j = 3 ∨ j = 4 ∨ j = 5 ∨ j = 6 ∨ j = 7) with rfl | rfl | rfl | rfl | rfl | rfl | rfl | rfl <;> rfl
                    · exfalso; omega
set_option maxHeartbeats 4000000 in
set_option maxRecDepth 100000 in
theorem lp_bs {g : JX} {κ : JK} {o c : Nat} {a : Nat → Nat} {P : Nat → Nat} {sz le ib mn pl at_ wr wh db : Int32} {W H d : Nat → BW} {Y : Nat → Nat} (hP : ∀ j, P j < 256) (hc : c * 64 + 64 ≤ 2112)  (C : j_C g κ b_Mod_block R_Mod rm_Mod_block 12) (hR : j_R g κ b_Mod_block none (fun r w => r = none ∧ w = [(o, .inr (6, mo a sz le ib mn pl at_ wr wh db)), (a 15, .inl (aI g, 2112, .inl (nf P))), (a 17, .inl (aJ g, 64, .inr (.inl (lf64 (bn cK))))), (a 19, .inl (aJ g, 64, .inr (.inl (lf64 (bn W))))), (a 20, .inl (aJ g, 8, .inr (.inl (lf64 (bn (hS H d 8)))))), (a 22, .inl (aJ g, 10, .inr (.inl (lf64 (mx d Y)))))]) 0 0) : ∀ (k : Nat) (i : Nat), i ≤ 8 → 8 + 1 ≤ i + k → j_V g κ (0) (0) 412 [(0, .ref o), (1, .int (nI (c * 64))), (2, .int (nI i))] [] ([(o, .inr (6, mo a sz le ib mn pl at_ wr wh db)), (a 15, .inl (aI g, 2112, .inl (nf P))), (a 17, .inl (aJ g, 64, .inr (.inl (lf64 (bn cK))))), (a 19, .inl (aJ g, 64, .inr (.inl (lf64 (bn W))))), (a 20, .inl (aJ g, 8, .inr (.inl (lf64 (bn (hS H d i)))))), (a 22, .inl (aJ g, 10, .inr (.inl (lf64 (mx d Y)))))]) := by
  intro k
  induction k with
  | zero =>
    intro i hi hk
    exfalso; omega
  | succ k ih =>
    intro i hi hk
    refine j_iload_n (pc := 412) C d_Mod_block_412 rfl 2 rfl ?_
    refine j_bipush (pc := 413) (v := nI 8) C d_Mod_block_413 (by decide) ?_
    refine j_icmp_geN (pc := 415) (tgt := 447) C (by omega) (by omega) d_Mod_block_415 rfl (fun c415 => ?_) (fun c415 => ?_)
    · skip
      exact hR.2.2 _ _ _ d_Mod_block_447 rfl (⟨rfl, by rw [show i = 8 by omega]⟩)
    · skip
      refine j_aload_n (pc := 418) C d_Mod_block_418 rfl 0 rfl ?_
      refine j_get (pc := 419) C F_Mod_75 0 rfl rfl d_Mod_block_419 ?_
      refine j_iload_n (pc := 422) C d_Mod_block_422 rfl 2 rfl ?_
      refine j_aload_n (pc := 423) C d_Mod_block_423 rfl 0 rfl ?_
      refine j_get (pc := 424) C F_Mod_75 0 rfl rfl d_Mod_block_424 ?_
      refine j_iload_n (pc := 427) C d_Mod_block_427 rfl 2 rfl ?_
      refine j_laldN (pc := 428) C 4 3 rfl rfl (by omega) (by omega) d_Mod_block_428 ?_
      refine j_rwl (y := lN (H i).toNat) (by show lN (hS H d i i).toNat = _; rw [hS_at]) ?_
      refine j_aload_n (pc := 429) C d_Mod_block_429 rfl 0 rfl ?_
      refine j_get (pc := 430) C F_Mod_81 0 rfl rfl d_Mod_block_430 ?_
      refine j_iload_n (pc := 433) C d_Mod_block_433 rfl 2 rfl ?_
      refine j_laldN (pc := 434) C 5 3 rfl rfl (by omega) (by omega) d_Mod_block_434 ?_
      refine j_rwl (y := lN (d i).toNat) (by show lN (mx d Y i) = _; unfold mx; rw [if_pos (by omega)]) ?_
      refine j_laddN (pc := 435) C d_Mod_block_435 ?_
      refine j_ldc2 (pc := 436) C k_Mod_92 d_Mod_block_436 ?_
      refine j_rwl (y := lN 4294967296) (rfl) ?_
      have q1 := (H i).isLt
      have q2 := (d i).isLt
      refine j_lremN (pc := 439) C (by omega) (by omega) (by omega) d_Mod_block_439 ?_
      refine j_rwl (y := lN (H i + d i).toNat) (congrArg lN (sum2 _ _)) ?_
      refine j_lastW (pc := 440) (ws' := [(o, .inr (6, mo a sz le ib mn pl at_ wr wh db)), (a 15, .inl (aI g, 2112, .inl (nf P))), (a 17, .inl (aJ g, 64, .inr (.inl (lf64 (bn cK))))), (a 19, .inl (aJ g, 64, .inr (.inl (lf64 (bn W))))), (a 20, .inl (aJ g, 8, .inr (.inl (lf64 (bn (va_up (hS H d i) i (H i + d i))))))), (a 22, .inl (aJ g, 10, .inr (.inl (lf64 (mx d Y)))))]) C 4 3 rfl rfl (by omega) (by omega) rfl d_Mod_block_440 ?_
      refine j_iinc (pc := 441) (k := 2) (v := nI (i + 1)) (lv' := [(2, .int (nI (i + 1))), (0, .ref o), (1, .int (nI (c * 64)))]) C d_Mod_block_441 rfl (j_inc _ _) (by decide) rfl ?_
      refine j_goto (pc := 444) (tgt := 412) C d_Mod_block_444 rfl ?_
      refine j_lv (lv' := [(0, .ref o), (1, .int (nI (c * 64))), (2, .int (nI (i + 1)))]) [1, 2, 0] rfl ?_
      rw [hS_s]
      exact ih (i + 1) (by omega) (by omega)
set_option maxHeartbeats 4000000 in
set_option maxRecDepth 100000 in
theorem c_Mod_block (l : Launch) (g : JX) (o : Nat) (a : Nat → Nat) (c : Nat) (P : Nat → Nat) (W H : Nat → BW) (Y : Nat → Nat) (sz le ib mn pl at_ wr wh db : Int32) (hP : ∀ j, P j < 256) (hc : c * 64 + 64 ≤ 2112)  : j_Ct l y_Mod_block b_Mod_block 12 none rm_Mod_block g ([(o, .inr (6, mo a sz le ib mn pl at_ wr wh db)), (a 15, .inl (aI g, 2112, .inl (nf P))), (a 17, .inl (aJ g, 64, .inr (.inl (lf64 (bn cK))))), (a 19, .inl (aJ g, 64, .inr (.inl (lf64 (bn W))))), (a 20, .inl (aJ g, 8, .inr (.inl (lf64 (bn H))))), (a 22, .inl (aJ g, 10, .inr (.inl (lf64 Y))))]) [.ref o, .int (nI (c * 64))] (fun r w => ∃ (W1 H1 : Nat → BW) (Y1 : Nat → Nat), r = none ∧ w = [(o, .inr (6, mo a sz le ib mn pl at_ wr wh db)), (a 15, .inl (aI g, 2112, .inl (nf P))), (a 17, .inl (aJ g, 64, .inr (.inl (lf64 (bn cK))))), (a 19, .inl (aJ g, 64, .inr (.inl (lf64 (bn W1))))), (a 20, .inl (aJ g, 8, .inr (.inl (lf64 (bn H1))))), (a 22, .inl (aJ g, 10, .inr (.inl (lf64 Y1))))] ∧ ∀ j, j < 8 → H1 j = H j + rdN (wx (fun i => wd P (c * 64 + 4 * i))) H 64 j) 0 0 := by
  refine j_ct (by decide) (Nat.le_of_ble_eq_true rfl) (fun κ hkl C hR hI => ?_)
  show j_V g κ 0 0 0 [(0, .ref o), (1, .int (nI (c * 64)))] [] ([(o, .inr (6, mo a sz le ib mn pl at_ wr wh db)), (a 15, .inl (aI g, 2112, .inl (nf P))), (a 17, .inl (aJ g, 64, .inr (.inl (lf64 (bn cK))))), (a 19, .inl (aJ g, 64, .inr (.inl (lf64 (bn W))))), (a 20, .inl (aJ g, 8, .inr (.inl (lf64 (bn H))))), (a 22, .inl (aJ g, 10, .inr (.inl (lf64 Y))))])
  refine j_iconst (pc := 0) (v := nI 0) C d_Mod_block_0 (by decide) ?_
  refine j_istore_n (pc := 1) (lv' := [(2, .int (nI 0)), (0, .ref o), (1, .int (nI (c * 64)))]) C d_Mod_block_1 rfl (by decide) rfl ?_
  refine j_lv (lv' := [(0, .ref o), (1, .int (nI (c * 64))), (2, .int (nI 0))]) [1, 2, 0] rfl ?_
  refine lp_bw (o := o) (c := c) (a := a) (P := P) (sz := sz) (le := le) (ib := ib) (mn := mn) (pl := pl) (at_ := at_) (wr := wr) (wh := wh) (db := db) (H := H) (Y := Y) hP hc (fun W1 hW1 => ?_) C 65 0 W (by omega) (by omega) (fun j hj => absurd hj (by omega))
  show j_V g κ 0 0 165 [(0, .ref o), (1, .int (nI (c * 64))), (2, .int (nI 64))] [] ([(o, .inr (6, mo a sz le ib mn pl at_ wr wh db)), (a 15, .inl (aI g, 2112, .inl (nf P))), (a 17, .inl (aJ g, 64, .inr (.inl (lf64 (bn cK))))), (a 19, .inl (aJ g, 64, .inr (.inl (lf64 (bn W1))))), (a 20, .inl (aJ g, 8, .inr (.inl (lf64 (bn H))))), (a 22, .inl (aJ g, 10, .inr (.inl (lf64 Y))))])
  refine j_iconst (pc := 165) (v := nI 0) C d_Mod_block_165 (by decide) ?_
  refine j_istore_n (pc := 166) (lv' := [(2, .int (nI 0)), (0, .ref o), (1, .int (nI (c * 64)))]) C d_Mod_block_166 rfl (by decide) rfl ?_
  refine j_lv (lv' := [(0, .ref o), (1, .int (nI (c * 64))), (2, .int (nI 0))]) [1, 2, 0] rfl ?_
  have e := lp_bc (W := W1) (o := o) (c := c) (a := a) (P := P) (sz := sz) (le := le) (ib := ib) (mn := mn) (pl := pl) (at_ := at_) (wr := wr) (wh := wh) (db := db) (H := H) (Y := Y) hP hc ?_ C 9 0 (by omega) (by omega)
  rw [cpN_0] at e
  exact e
  show j_V g κ 0 0 191 [(0, .ref o), (1, .int (nI (c * 64))), (2, .int (nI 8))] [] ([(o, .inr (6, mo a sz le ib mn pl at_ wr wh db)), (a 15, .inl (aI g, 2112, .inl (nf P))), (a 17, .inl (aJ g, 64, .inr (.inl (lf64 (bn cK))))), (a 19, .inl (aJ g, 64, .inr (.inl (lf64 (bn W1))))), (a 20, .inl (aJ g, 8, .inr (.inl (lf64 (bn H))))), (a 22, .inl (aJ g, 10, .inr (.inl (lf64 (mx H Y)))))])
  refine j_iconst (pc := 191) (v := nI 0) C d_Mod_block_191 (by decide) ?_
  refine j_istore_n (pc := 192) (lv' := [(2, .int (nI 0)), (0, .ref o), (1, .int (nI (c * 64)))]) C d_Mod_block_192 rfl (by decide) rfl ?_
  refine j_lv (lv' := [(0, .ref o), (1, .int (nI (c * 64))), (2, .int (nI 0))]) [1, 2, 0] rfl ?_
  refine lp_br (W := W1) (o := o) (c := c) (a := a) (P := P) (sz := sz) (le := le) (ib := ib) (mn := mn) (pl := pl) (at_ := at_) (wr := wr) (wh := wh) (db := db) (H := H) (Y := Y) hP hc (fun d1 hY1 => ?_) C 65 0 _ (by omega) (by omega) (fun j hj => rfl)
  show j_V g κ 0 0 410 [(0, .ref o), (1, .int (nI (c * 64))), (2, .int (nI 64))] [] ([(o, .inr (6, mo a sz le ib mn pl at_ wr wh db)), (a 15, .inl (aI g, 2112, .inl (nf P))), (a 17, .inl (aJ g, 64, .inr (.inl (lf64 (bn cK))))), (a 19, .inl (aJ g, 64, .inr (.inl (lf64 (bn W1))))), (a 20, .inl (aJ g, 8, .inr (.inl (lf64 (bn H))))), (a 22, .inl (aJ g, 10, .inr (.inl (lf64 (mx d1 Y)))))])
  refine j_iconst (pc := 410) (v := nI 0) C d_Mod_block_410 (by decide) ?_
  refine j_istore_n (pc := 411) (lv' := [(2, .int (nI 0)), (0, .ref o), (1, .int (nI (c * 64)))]) C d_Mod_block_411 rfl (by decide) rfl ?_
  refine j_lv (lv' := [(0, .ref o), (1, .int (nI (c * 64))), (2, .int (nI 0))]) [1, 2, 0] rfl ?_
  have e := lp_bs (W := W1) (d := d1) (o := o) (c := c) (a := a) (P := P) (sz := sz) (le := le) (ib := ib) (mn := mn) (pl := pl) (at_ := at_) (wr := wr) (wh := wh) (db := db) (H := H) (Y := Y) hP hc C (j_R_mono hR (fun r w h => ⟨W1, hS H d1 8, mx d1 Y, h.1, h.2, fun j hj => by unfold hS; rw [if_pos hj, hY1 j hj, rdN_cg (fun _ _ => rfl) 64 hW1 j hj]⟩)) 9 0 (by omega) (by omega)
  rw [hS_0] at e
  exact e
