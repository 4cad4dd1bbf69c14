abbrev rm_Mod_isPrime : Room := { frames := 0, cells := 0, slots := 0, locals := 0 }
set_option maxHeartbeats 4000000 in
set_option maxRecDepth 100000 in
theorem lp_ip {g : JX} {κ : JK} {c : Nat} (hc : c ≤ 323) (C : j_C g κ b_Mod_isPrime R_Mod rm_Mod_isPrime 2) (hR : j_R g κ b_Mod_isPrime (some .boolean) (fun r w => r = some (.int (b2 (isP c))) ∧ w = []) 0 0) : ∀ (k : Nat) (d : Nat), 2 ≤ d → d ≤ 18 → 19 ≤ d + k → (∀ e, 2 ≤ e → e < d → ¬ c % e = 0) → j_V g κ (0) (0) 2 [(0, .int (nI c)), (1, .int (nI d))] [] ([]) := by
  intro k
  induction k with
  | zero =>
    intro d h2 hd hk hN
    exfalso; omega
  | succ k ih =>
    intro d h2 hd hk hN
    have hdd : d * d ≤ 18 * 18 := Nat.mul_le_mul hd hd
    refine j_iload_n (pc := 2) C d_Mod_isPrime_2 rfl 1 rfl ?_
    refine j_iload_n (pc := 3) C d_Mod_isPrime_3 rfl 1 rfl ?_
    refine j_imulN (pc := 4) C d_Mod_isPrime_4 ?_
    refine j_iload_n (pc := 5) C d_Mod_isPrime_5 rfl 0 rfl ?_
    refine j_icmp_gtN (pc := 6) (tgt := 23) C (by omega) (by omega) d_Mod_isPrime_6 rfl (fun c6 => ?_) (fun c6 => ?_)
    · skip
      refine j_iconst (pc := 23) (v := nI 1) C d_Mod_isPrime_23 (by decide) ?_
      exact hR.1 _ _ _ _ d_Mod_isPrime_24 ⟨_, rfl, by first | rfl | decide⟩ (⟨by rw [isP_t hN c6]; rfl, rfl⟩)
    · skip
      have hd18 : d < 18 := Nat.lt_of_not_le (fun h => by have := Nat.mul_le_mul h h; omega)
      refine j_iload_n (pc := 9) C d_Mod_isPrime_9 rfl 0 rfl ?_
      refine j_iload_n (pc := 10) C d_Mod_isPrime_10 rfl 1 rfl ?_
      refine j_iremN (pc := 11) C (by omega) (by omega) (by omega) d_Mod_isPrime_11 ?_
      have hmd : c % d < d := Nat.mod_lt _ (by omega)
      refine j_if_neN (pc := 12) (tgt := 17) C (by omega) d_Mod_isPrime_12 rfl (fun c12 => ?_) (fun c12 => ?_)
      · skip
        refine j_iinc (pc := 17) (k := 1) (v := nI (d + 1)) (lv' := [(1, .int (nI (d + 1))), (0, .int (nI c))]) C d_Mod_isPrime_17 rfl (j_inc _ _) (by decide) rfl ?_
        refine j_goto (pc := 20) (tgt := 2) C d_Mod_isPrime_20 rfl ?_
        refine j_lv (lv' := [(0, .int (nI c)), (1, .int (nI (d + 1)))]) [1, 0] rfl ?_
        exact ih (d + 1) (by omega) hd18 (by omega) (fun e h1 h2 => if q : e = d then (by subst q; omega) else hN e h1 (by omega))
      · skip
        refine j_iconst (pc := 15) (v := nI 0) C d_Mod_isPrime_15 (by decide) ?_
        exact hR.1 _ _ _ _ d_Mod_isPrime_16 ⟨_, rfl, by first | rfl | decide⟩ (⟨by rw [isP_f h2 hd18 c6 c12]; rfl, rfl⟩)
set_option maxHeartbeats 4000000 in
set_option maxRecDepth 100000 in
theorem c_Mod_isPrime (l : Launch) (g : JX) (c : Nat) (hc : c ≤ 323) : j_Ct l y_Mod_isPrime b_Mod_isPrime 2 (some .boolean) rm_Mod_isPrime g ([]) [.int (nI c)] (fun r w => r = some (.int (b2 (isP c))) ∧ w = []) 0 0 := by
  refine j_ct (by decide) (Nat.le_of_ble_eq_true rfl) (fun κ hkl C hR hI => ?_)
  show j_V g κ 0 0 0 [(0, .int (nI c))] [] ([])
  refine j_iconst (pc := 0) (v := nI 2) C d_Mod_isPrime_0 (by decide) ?_
  refine j_istore_n (pc := 1) (lv' := [(1, .int (nI 2)), (0, .int (nI c))]) C d_Mod_isPrime_1 rfl (by decide) rfl ?_
  refine j_lv (lv' := [(0, .int (nI c)), (1, .int (nI 2))]) [1, 0] rfl ?_
  exact lp_ip (c := c) hc C hR 17 2 (by omega) (by omega) (by omega) (fun e h1 h2 => absurd h2 (by omega))
abbrev rm_Mod_fits : Room := { frames := 0, cells := 0, slots := 0, locals := 0 }
set_option maxHeartbeats 4000000 in
set_option maxRecDepth 100000 in
theorem lp_fa {g : JX} {κ : JK} {o : Nat} {a : Nat → Nat} {cv p k1 : Nat} {sz le ib mn pl at_ wr wh db : Int32} {Y : Nat → Nat} (K : ∀ X : Nat → Nat, (∀ j, j < 10 → X j = 0) → j_V g κ 0 0 24 [(0, .ref o), (1, .long (lN cv)), (3, .int (nI p)), (4, .int (nI k1))] [] ([(o, .inr (6, mo a sz le ib mn pl at_ wr wh db)), (a 21, .inl (aJ g, 10, .inr (.inl (lf64 X)))), (a 22, .inl (aJ g, 10, .inr (.inl (lf64 Y))))])) (C : j_C g κ b_Mod_fits R_Mod rm_Mod_fits 9) : ∀ (k : Nat) (i : Nat) (X : Nat → Nat), i ≤ 10 → 11 ≤ i + k → (∀ j, j < i → X j = 0) → j_V g κ (0) (0) 3 [(0, .ref o), (1, .long (lN cv)), (3, .int (nI p)), (4, .int (nI k1)), (5, .int (nI i))] [] ([(o, .inr (6, mo a sz le ib mn pl at_ wr wh db)), (a 21, .inl (aJ g, 10, .inr (.inl (lf64 X)))), (a 22, .inl (aJ g, 10, .inr (.inl (lf64 Y))))]) := by
  intro k
  induction k with
  | zero =>
    intro i X hi hk hX
    exfalso; omega
  | succ k ih =>
    intro i X hi hk hX
    refine j_iload (pc := 3) C d_Mod_fits_3 4 rfl ?_
    refine j_bipush (pc := 5) (v := nI 10) C d_Mod_fits_5 (by decide) ?_
    refine j_icmp_geN (pc := 7) (tgt := 24) C (by omega) (by omega) d_Mod_fits_7 rfl (fun c7 => ?_) (fun c7 => ?_)
    · skip
      obtain rfl : i = 10 := by omega
      exact j_lv [0, 1, 2, 3] rfl (K X hX)
    · skip
      refine j_aload_n (pc := 10) C d_Mod_fits_10 rfl 0 rfl ?_
      refine j_get (pc := 11) C F_Mod_78 0 rfl rfl d_Mod_fits_11 ?_
      refine j_iload (pc := 14) C d_Mod_fits_14 4 rfl ?_
      refine j_lconst (pc := 16) (v := 0) C d_Mod_fits_16 (by decide) ?_
      refine j_rwl (y := lN 0) (rfl) ?_
      refine j_lastB (pc := 17) (ws' := [(o, .inr (6, mo a sz le ib mn pl at_ wr wh db)), (a 21, .inl (aJ g, 10, .inr (.inl (lf64 (va_up X i 0))))), (a 22, .inl (aJ g, 10, .inr (.inl (lf64 Y))))]) C 1 3 rfl rfl (by omega) (by omega) rfl d_Mod_fits_17 ?_
      refine j_iinc (pc := 18) (k := 4) (v := nI (i + 1)) (lv' := [(5, .int (nI (i + 1))), (0, .ref o), (1, .long (lN cv)), (3, .int (nI p)), (4, .int (nI k1))]) C d_Mod_fits_18 rfl (j_inc _ _) (by decide) rfl ?_
      refine j_goto (pc := 21) (tgt := 3) C d_Mod_fits_21 rfl ?_
      refine j_lv (lv' := [(0, .ref o), (1, .long (lN cv)), (3, .int (nI p)), (4, .int (nI k1)), (5, .int (nI (i + 1)))]) [1, 2, 3, 4, 0] rfl ?_
      exact ih (i + 1) _ (by omega) (by omega) (up_s (f := fun _ => 0) hX rfl)
set_option maxHeartbeats 4000000 in
set_option maxRecDepth 100000 in
theorem lp_fb {g : JX} {κ : JK} {o : Nat} {a : Nat → Nat} {cv p k1 : Nat} {sz le ib mn pl at_ wr wh db : Int32} {m : Nat} {X : Nat → Nat} (K : ∀ Y : Nat → Nat, (∀ j, j < 10 → Y j = 0) → j_V g κ 0 0 65 [(0, .ref o), (1, .long (lN cv)), (3, .int (nI p)), (4, .int (nI k1)), (5, .int (nI m))] [] ([(o, .inr (6, mo a sz le ib mn pl at_ wr wh db)), (a 21, .inl (aJ g, 10, .inr (.inl (lf64 X)))), (a 22, .inl (aJ g, 10, .inr (.inl (lf64 Y))))])) (C : j_C g κ b_Mod_fits R_Mod rm_Mod_fits 9) : ∀ (k : Nat) (i : Nat) (Y : Nat → Nat), i ≤ 10 → 11 ≤ i + k → (∀ j, j < i → Y j = 0) → j_V g κ (0) (0) 44 [(0, .ref o), (1, .long (lN cv)), (3, .int (nI p)), (4, .int (nI k1)), (5, .int (nI m)), (6, .int (nI i))] [] ([(o, .inr (6, mo a sz le ib mn pl at_ wr wh db)), (a 21, .inl (aJ g, 10, .inr (.inl (lf64 X)))), (a 22, .inl (aJ g, 10, .inr (.inl (lf64 Y))))]) := by
  intro k
  induction k with
  | zero =>
    intro i Y hi hk hY
    exfalso; omega
  | succ k ih =>
    intro i Y hi hk hY
    refine j_iload (pc := 44) C d_Mod_fits_44 5 rfl ?_
    refine j_bipush (pc := 46) (v := nI 10) C d_Mod_fits_46 (by decide) ?_
    refine j_icmp_geN (pc := 48) (tgt := 65) C (by omega) (by omega) d_Mod_fits_48 rfl (fun c48 => ?_) (fun c48 => ?_)
    · skip
      obtain rfl : i = 10 := by omega
      exact j_lv [0, 1, 2, 3, 4] rfl (K Y hY)
    · skip
      refine j_aload_n (pc := 51) C d_Mod_fits_51 rfl 0 rfl ?_
      refine j_get (pc := 52) C F_Mod_81 0 rfl rfl d_Mod_fits_52 ?_
      refine j_iload (pc := 55) C d_Mod_fits_55 5 rfl ?_
      refine j_lconst (pc := 57) (v := 0) C d_Mod_fits_57 (by decide) ?_
      refine j_rwl (y := lN 0) (rfl) ?_
      refine j_lastB (pc := 58) (ws' := [(o, .inr (6, mo a sz le ib mn pl at_ wr wh db)), (a 21, .inl (aJ g, 10, .inr (.inl (lf64 X)))), (a 22, .inl (aJ g, 10, .inr (.inl (lf64 (va_up Y i 0)))))]) C 2 3 rfl rfl (by omega) (by omega) rfl d_Mod_fits_58 ?_
      refine j_iinc (pc := 59) (k := 5) (v := nI (i + 1)) (lv' := [(6, .int (nI (i + 1))), (0, .ref o), (1, .long (lN cv)), (3, .int (nI p)), (4, .int (nI k1)), (5, .int (nI m))]) C d_Mod_fits_59 rfl (j_inc _ _) (by decide) rfl ?_
      refine j_goto (pc := 62) (tgt := 44) C d_Mod_fits_62 rfl ?_
      refine j_lv (lv' := [(0, .ref o), (1, .long (lN cv)), (3, .int (nI p)), (4, .int (nI k1)), (5, .int (nI m)), (6, .int (nI (i + 1)))]) [1, 2, 3, 4, 5, 0] rfl ?_
      exact ih (i + 1) _ (by omega) (by omega) (up_s (f := fun _ => 0) hY rfl)
set_option maxHeartbeats 4000000 in
set_option maxRecDepth 100000 in
theorem lp_fc {g : JX} {κ : JK} {o : Nat} {a : Nat → Nat} {cv p k1 : Nat} {sz le ib mn pl at_ wr wh db : Int32} {m i : Nat} {X : Nat → Nat} (hcv : cv < 2 ^ 38) (hp : p < 65536) (hk1 : k1 ≤ 3) (hi : i < 10) (hX : (∀ j, j < 10 → X j < 65536)) (hX8 : 8 ≤ i → X i = 0) (K : ∀ (j : Nat) (Y : Nat → Nat), Vl Y 10 = Vl X i * cv + X i * 65536 ^ i * (cv % 65536 ^ j) → (j = 3 ∨ X i = 0) → j ≤ 3 → (∀ e, e < 10 → Y e ≤ (3 * i + j) * 4294967296) → j_V g κ 0 0 140 [(0, .ref o), (1, .long (lN cv)), (3, .int (nI p)), (4, .int (nI k1)), (5, .int (nI m)), (6, .int (nI i))] [] ([(o, .inr (6, mo a sz le ib mn pl at_ wr wh db)), (a 21, .inl (aJ g, 10, .inr (.inl (lf64 X)))), (a 22, .inl (aJ g, 10, .inr (.inl (lf64 Y))))])) (C : j_C g κ b_Mod_fits R_Mod rm_Mod_fits 9) : ∀ (k : Nat) (j : Nat) (Y : Nat → Nat), j ≤ 3 → 4 ≤ j + k → Vl Y 10 = Vl X i * cv + X i * 65536 ^ i * (cv % 65536 ^ j) → (∀ e, e < 10 → Y e ≤ (3 * i + j) * 4294967296) → j_V g κ (0) (0) 78 [(0, .ref o), (1, .long (lN cv)), (3, .int (nI p)), (4, .int (nI k1)), (5, .int (nI m)), (6, .int (nI i)), (7, .int (nI j))] [] ([(o, .inr (6, mo a sz le ib mn pl at_ wr wh db)), (a 21, .inl (aJ g, 10, .inr (.inl (lf64 X)))), (a 22, .inl (aJ g, 10, .inr (.inl (lf64 Y))))]) := by
  intro k
  induction k with
  | zero =>
    intro j Y hj hk hI hY
    exfalso; omega
  | succ k ih =>
    intro j Y hj hk hI hY
    refine j_iload (pc := 78) C d_Mod_fits_78 6 rfl ?_
    refine j_iconst (pc := 80) (v := nI 3) C d_Mod_fits_80 (by decide) ?_
    refine j_icmp_geN (pc := 81) (tgt := 140) C (by omega) (by omega) d_Mod_fits_81 rfl (fun c81 => ?_) (fun c81 => ?_)
    · skip
      exact j_lv [0, 1, 2, 3, 4, 5] rfl (K j Y hI (by first | exact Or.inl (by omega) | exact Or.inr (hX8 (by omega))) (by omega) hY)
    · skip
      refine j_iload (pc := 84) C d_Mod_fits_84 5 rfl ?_
      refine j_iload (pc := 86) C d_Mod_fits_86 6 rfl ?_
      refine j_iaddN (pc := 88) C d_Mod_fits_88 ?_
      refine j_bipush (pc := 89) (v := nI 10) C d_Mod_fits_89 (by decide) ?_
      refine j_icmp_geN (pc := 91) (tgt := 140) C (by omega) (by omega) d_Mod_fits_91 rfl (fun c91 => ?_) (fun c91 => ?_)
      · skip
        exact j_lv [0, 1, 2, 3, 4, 5] rfl (K j Y hI (by first | exact Or.inl (by omega) | exact Or.inr (hX8 (by omega))) (by omega) hY)
      · skip
        refine j_aload_n (pc := 94) C d_Mod_fits_94 rfl 0 rfl ?_
        refine j_get (pc := 95) C F_Mod_81 0 rfl rfl d_Mod_fits_95 ?_
        refine j_iload (pc := 98) C d_Mod_fits_98 5 rfl ?_
        refine j_iload (pc := 100) C d_Mod_fits_100 6 rfl ?_
        refine j_iaddN (pc := 102) C d_Mod_fits_102 ?_
        refine j_aload_n (pc := 103) C d_Mod_fits_103 rfl 0 rfl ?_
        refine j_get (pc := 104) C F_Mod_81 0 rfl rfl d_Mod_fits_104 ?_
        refine j_iload (pc := 107) C d_Mod_fits_107 5 rfl ?_
        refine j_iload (pc := 109) C d_Mod_fits_109 6 rfl ?_
        refine j_iaddN (pc := 111) C d_Mod_fits_111 ?_
        refine j_laldN (pc := 112) C 2 3 rfl rfl (by omega) (by omega) d_Mod_fits_112 ?_
        refine j_aload_n (pc := 113) C d_Mod_fits_113 rfl 0 rfl ?_
        refine j_get (pc := 114) C F_Mod_78 0 rfl rfl d_Mod_fits_114 ?_
        refine j_iload (pc := 117) C d_Mod_fits_117 5 rfl ?_
        refine j_laldN (pc := 119) C 1 3 rfl rfl (by omega) (by omega) d_Mod_fits_119 ?_
        refine j_lload_n (pc := 120) C d_Mod_fits_120 rfl 1 rfl ?_
        refine j_bipush (pc := 121) (v := nI 16) C d_Mod_fits_121 (by decide) ?_
        refine j_iload (pc := 123) C d_Mod_fits_123 6 rfl ?_
        refine j_imulN (pc := 125) C d_Mod_fits_125 ?_
        refine j_lshr (pc := 126) (v := (lN cv) >>> ((nI (16 * j)).toInt64 &&& 63)) C d_Mod_fits_126 rfl ?_
        refine j_ldc2 (pc := 127) C k_Mod_98 d_Mod_fits_127 ?_
        refine j_rwl (y := lN 65535) (rfl) ?_
        refine j_land (pc := 130) C d_Mod_fits_130 ?_
        refine j_rwl (y := lN (cv / 65536 ^ j % 65536)) (dg_v (by omega) (by omega)) ?_
        refine j_lmulN (pc := 131) C d_Mod_fits_131 ?_
        refine j_laddN (pc := 132) C d_Mod_fits_132 ?_
        have hxi := hX i hi
        have hdj : cv / 65536 ^ j % 65536 < 65536 := Nat.mod_lt _ (by decide)
        have hml : X i * (cv / 65536 ^ j % 65536) ≤ 65536 * 65536 := Nat.mul_le_mul (by omega) (by omega)
        refine j_lastB (pc := 133) (ws' := [(o, .inr (6, mo a sz le ib mn pl at_ wr wh db)), (a 21, .inl (aJ g, 10, .inr (.inl (lf64 X)))), (a 22, .inl (aJ g, 10, .inr (.inl (lf64 (va_up Y (i + j) ((Y (i + j)) + ((X i) * (cv / 65536 ^ j % 65536))))))))]) C 2 3 rfl rfl (by omega) (by omega) rfl d_Mod_fits_133 ?_
        refine j_iinc (pc := 134) (k := 6) (v := nI (j + 1)) (lv' := [(7, .int (nI (j + 1))), (0, .ref o), (1, .long (lN cv)), (3, .int (nI p)), (4, .int (nI k1)), (5, .int (nI m)), (6, .int (nI i))]) C d_Mod_fits_134 rfl (j_inc _ _) (by decide) rfl ?_
        refine j_goto (pc := 137) (tgt := 78) C d_Mod_fits_137 rfl ?_
        refine j_lv (lv' := [(0, .ref o), (1, .long (lN cv)), (3, .int (nI p)), (4, .int (nI k1)), (5, .int (nI m)), (6, .int (nI i)), (7, .int (nI (j + 1)))]) [1, 2, 3, 4, 5, 6, 0] rfl ?_
        exact ih (j + 1) _ (by omega) (by omega) (cv_s hI (by omega)) (yb_u hY c91 hml)
set_option maxHeartbeats 4000000 in
set_option maxRecDepth 100000 in
theorem lp_fd {g : JX} {κ : JK} {o : Nat} {a : Nat → Nat} {cv p k1 : Nat} {sz le ib mn pl at_ wr wh db : Int32} {m : Nat} {X : Nat → Nat} (hcv : cv < 2 ^ 38) (hp : p < 65536) (hk1 : k1 ≤ 3) (hX : (∀ j, j < 10 → X j < 65536)) (hX8 : X 8 = 0 ∧ X 9 = 0) (K : ∀ Y : Nat → Nat, Vl Y 10 = Vl X 10 * cv → (∀ e, e < 10 → Y e ≤ (3 * 10) * 4294967296) → j_V g κ 0 0 146 [(0, .ref o), (1, .long (lN cv)), (3, .int (nI p)), (4, .int (nI k1)), (5, .int (nI m))] [] ([(o, .inr (6, mo a sz le ib mn pl at_ wr wh db)), (a 21, .inl (aJ g, 10, .inr (.inl (lf64 X)))), (a 22, .inl (aJ g, 10, .inr (.inl (lf64 Y))))])) (C : j_C g κ b_Mod_fits R_Mod rm_Mod_fits 9) : ∀ (k : Nat) (i : Nat) (Y : Nat → Nat), i ≤ 10 → 11 ≤ i + k → Vl Y 10 = Vl X i * cv + X i * 65536 ^ i * (cv % 65536 ^ 0) → (∀ e, e < 10 → Y e ≤ (3 * i) * 4294967296) → j_V g κ (0) (0) 68 [(0, .ref o), (1, .long (lN cv)), (3, .int (nI p)), (4, .int (nI k1)), (5, .int (nI m)), (6, .int (nI i))] [] ([(o, .inr (6, mo a sz le ib mn pl at_ wr wh db)), (a 21, .inl (aJ g, 10, .inr (.inl (lf64 X)))), (a 22, .inl (aJ g, 10, .inr (.inl (lf64 Y))))]) := by
  intro k
  induction k with
  | zero =>
    intro i Y hi hk hI hY
    exfalso; omega
  | succ k ih =>
    intro i Y hi hk hI hY
    refine j_iload (pc := 68) C d_Mod_fits_68 5 rfl ?_
    refine j_bipush (pc := 70) (v := nI 10) C d_Mod_fits_70 (by decide) ?_
    refine j_icmp_geN (pc := 72) (tgt := 146) C (by omega) (by omega) d_Mod_fits_72 rfl (fun c72 => ?_) (fun c72 => ?_)
    · skip
      obtain rfl : i = 10 := by omega
      have hI3 : Vl Y 10 = Vl X 10 * cv := by rw [hI, Nat.pow_zero, Nat.mod_one, Nat.mul_zero, Nat.add_zero]
      exact j_lv [0, 1, 2, 3, 4] rfl (K Y hI3 hY)
    · skip
      refine j_iconst (pc := 75) (v := nI 0) C d_Mod_fits_75 (by decide) ?_
      refine j_istore (pc := 76) (lv' := [(7, .int (nI 0)), (0, .ref o), (1, .long (lN cv)), (3, .int (nI p)), (4, .int (nI k1)), (5, .int (nI m)), (6, .int (nI i))]) C d_Mod_fits_76 (by decide) rfl ?_
      refine j_lv (lv' := [(0, .ref o), (1, .long (lN cv)), (3, .int (nI p)), (4, .int (nI k1)), (5, .int (nI m)), (6, .int (nI i)), (7, .int (nI 0))]) [1, 2, 3, 4, 5, 6, 0] rfl ?_
      refine lp_fc (o := o) (a := a) (cv := cv) (p := p) (k1 := k1) (sz := sz) (le := le) (ib := ib) (mn := mn) (pl := pl) (at_ := at_) (wr := wr) (wh := wh) (db := db) (m := m) (i := i) (X := X) hcv hp hk1 (by omega) hX (fun h => if q : i = 8 then (by rw [q]; exact hX8.1) else (by rw [show i = 9 by omega]; exact hX8.2)) (fun j Y2 hI2 hj2 hj3 hY2 => ?_) C 4 0 Y (by omega) (by omega) hI hY
      show j_V g κ 0 0 140 [(0, .ref o), (1, .long (lN cv)), (3, .int (nI p)), (4, .int (nI k1)), (5, .int (nI m)), (6, .int (nI i))] [] ([(o, .inr (6, mo a sz le ib mn pl at_ wr wh db)), (a 21, .inl (aJ g, 10, .inr (.inl (lf64 X)))), (a 22, .inl (aJ g, 10, .inr (.inl (lf64 Y2))))])
      refine j_iinc (pc := 140) (k := 5) (v := nI (i + 1)) (lv' := [(6, .int (nI (i + 1))), (0, .ref o), (1, .long (lN cv)), (3, .int (nI p)), (4, .int (nI k1)), (5, .int (nI m))]) C d_Mod_fits_140 rfl (j_inc _ _) (by decide) rfl ?_
      refine j_goto (pc := 143) (tgt := 68) C d_Mod_fits_143 rfl ?_
      refine j_lv (lv' := [(0, .ref o), (1, .long (lN cv)), (3, .int (nI p)), (4, .int (nI k1)), (5, .int (nI m)), (6, .int (nI (i + 1)))]) [1, 2, 3, 4, 5, 0] rfl ?_
      exact ih (i + 1) _ (by omega) (by omega) (cv_end (by omega) hI2 hj2) (fun e he => yb_2 (hY2 e he) (yb_3 hj3))
set_option maxHeartbeats 4000000 in
set_option maxRecDepth 100000 in
theorem lp_fe {g : JX} {κ : JK} {o : Nat} {a : Nat → Nat} {cv p k1 : Nat} {sz le ib mn pl at_ wr wh db : Int32} {m : Nat} {Y : Nat → Nat} (hY : (∀ e, e < 10 → Y e ≤ (3 * 10) * 4294967296)) (K : ∀ (X : Nat → Nat) (cr : Nat), Vl X 10 + cr * 65536 ^ 10 = Vl Y 10 → (∀ j, j < 10 → X j < 65536) → j_V g κ 0 0 198 [(0, .ref o), (1, .long (lN cv)), (3, .int (nI p)), (4, .int (nI k1)), (5, .int (nI m))] [] ([(o, .inr (6, mo a sz le ib mn pl at_ wr wh db)), (a 21, .inl (aJ g, 10, .inr (.inl (lf64 X)))), (a 22, .inl (aJ g, 10, .inr (.inl (lf64 Y))))])) (C : j_C g κ b_Mod_fits R_Mod rm_Mod_fits 9) : ∀ (k : Nat) (i : Nat) (X : Nat → Nat) (cr : Nat), i ≤ 10 → 11 ≤ i + k → Vl X i + cr * 65536 ^ i = Vl Y i → (∀ j, j < i → X j < 65536) → cr ≤ 281474976710656 → j_V g κ (0) (0) 152 [(0, .ref o), (1, .long (lN cv)), (3, .int (nI p)), (4, .int (nI k1)), (5, .int (nI m)), (6, .long (lN cr)), (8, .int (nI i))] [] ([(o, .inr (6, mo a sz le ib mn pl at_ wr wh db)), (a 21, .inl (aJ g, 10, .inr (.inl (lf64 X)))), (a 22, .inl (aJ g, 10, .inr (.inl (lf64 Y))))]) := by
  intro k
  induction k with
  | zero =>
    intro i X cr hi hk hI hX hcr
    exfalso; omega
  | succ k ih =>
    intro i X cr hi hk hI hX hcr
    refine j_iload (pc := 152) C d_Mod_fits_152 6 rfl ?_
    refine j_bipush (pc := 154) (v := nI 10) C d_Mod_fits_154 (by decide) ?_
    refine j_icmp_geN (pc := 156) (tgt := 198) C (by omega) (by omega) d_Mod_fits_156 rfl (fun c156 => ?_) (fun c156 => ?_)
    · skip
      obtain rfl : i = 10 := by omega
      exact j_lv [0, 1, 2, 3, 4] rfl (K X cr hI hX)
    · skip
      refine j_lload (pc := 159) C d_Mod_fits_159 5 rfl ?_
      refine j_aload_n (pc := 161) C d_Mod_fits_161 rfl 0 rfl ?_
      refine j_get (pc := 162) C F_Mod_81 0 rfl rfl d_Mod_fits_162 ?_
      refine j_iload (pc := 165) C d_Mod_fits_165 6 rfl ?_
      refine j_laldN (pc := 167) C 2 3 rfl rfl (by omega) (by omega) d_Mod_fits_167 ?_
      have hyi := hY i (by omega)
      refine j_laddN (pc := 168) C d_Mod_fits_168 ?_
      refine j_lstore (pc := 169) (lv' := [(6, .long (lN (cr + (Y i)))), (0, .ref o), (1, .long (lN cv)), (3, .int (nI p)), (4, .int (nI k1)), (5, .int (nI m)), (8, .int (nI i))]) C d_Mod_fits_169 (by decide) rfl ?_
      refine j_aload_n (pc := 171) C d_Mod_fits_171 rfl 1 rfl ?_
      refine j_get (pc := 172) C F_Mod_78 0 rfl rfl d_Mod_fits_172 ?_
      refine j_iload (pc := 175) C d_Mod_fits_175 6 rfl ?_
      refine j_lload (pc := 177) C d_Mod_fits_177 0 rfl ?_
      refine j_ldc2 (pc := 179) C k_Mod_100 d_Mod_fits_179 ?_
      refine j_rwl (y := lN 65536) (rfl) ?_
      refine j_lremN (pc := 182) C (by omega) (by omega) (by omega) d_Mod_fits_182 ?_
      refine j_lastB (pc := 183) (ws' := [(o, .inr (6, mo a sz le ib mn pl at_ wr wh db)), (a 21, .inl (aJ g, 10, .inr (.inl (lf64 (va_up X i ((cr + (Y i)) % 65536)))))), (a 22, .inl (aJ g, 10, .inr (.inl (lf64 Y))))]) C 1 3 rfl rfl (by omega) (by omega) rfl d_Mod_fits_183 ?_
      refine j_lload (pc := 184) C d_Mod_fits_184 0 rfl ?_
      refine j_ldc2 (pc := 186) C k_Mod_100 d_Mod_fits_186 ?_
      refine j_rwl (y := lN 65536) (rfl) ?_
      refine j_ldivN (pc := 189) C (by omega) (by omega) (by omega) d_Mod_fits_189 ?_
      refine j_lstore (pc := 190) (lv' := [(6, .long (lN ((cr + (Y i)) / 65536))), (0, .ref o), (1, .long (lN cv)), (3, .int (nI p)), (4, .int (nI k1)), (5, .int (nI m)), (8, .int (nI i))]) C d_Mod_fits_190 (by decide) rfl ?_
      refine j_iinc (pc := 192) (k := 6) (v := nI (i + 1)) (lv' := [(8, .int (nI (i + 1))), (6, .long (lN ((cr + (Y i)) / 65536))), (0, .ref o), (1, .long (lN cv)), (3, .int (nI p)), (4, .int (nI k1)), (5, .int (nI m))]) C d_Mod_fits_192 rfl (j_inc _ _) (by decide) rfl ?_
      refine j_goto (pc := 195) (tgt := 152) C d_Mod_fits_195 rfl ?_
      refine j_lv (lv' := [(0, .ref o), (1, .long (lN cv)), (3, .int (nI p)), (4, .int (nI k1)), (5, .int (nI m)), (6, .long (lN ((cr + (Y i)) / 65536))), (8, .int (nI (i + 1)))]) [2, 3, 4, 5, 6, 1, 0] rfl ?_
      exact ih (i + 1) _ _ (by omega) (by omega) (cr_s hI) (fun j hj => if q : j = i then (by rw [q, va_up_self]; exact Nat.mod_lt _ (by decide)) else (by rw [va_up_ne _ _ q]; exact hX j (by omega))) (by omega)
set_option maxHeartbeats 4000000 in
set_option maxRecDepth 100000 in
theorem lp_fp {g : JX} {κ : JK} {o : Nat} {a : Nat → Nat} {cv p k1 : Nat} {sz le ib mn pl at_ wr wh db : Int32} (hcv : cv < 2 ^ 38) (hp : p < 65536) (hk1 : k1 ≤ 3) (K : ∀ X Y : Nat → Nat, Vl X 10 = cv ^ k1 → (∀ j, j < 10 → X j < 65536) → j_V g κ 0 0 204 [(0, .ref o), (1, .long (lN cv)), (3, .int (nI p)), (4, .int (nI k1)), (5, .int (nI k1))] [] ([(o, .inr (6, mo a sz le ib mn pl at_ wr wh db)), (a 21, .inl (aJ g, 10, .inr (.inl (lf64 X)))), (a 22, .inl (aJ g, 10, .inr (.inl (lf64 Y))))])) (C : j_C g κ b_Mod_fits R_Mod rm_Mod_fits 9) : ∀ (k : Nat) (m : Nat) (X Y : Nat → Nat), m ≤ k1 → k1 + 1 ≤ m + k → Vl X 10 = cv ^ m → (∀ j, j < 10 → X j < 65536) → j_V g κ (0) (0) 34 [(0, .ref o), (1, .long (lN cv)), (3, .int (nI p)), (4, .int (nI k1)), (5, .int (nI m))] [] ([(o, .inr (6, mo a sz le ib mn pl at_ wr wh db)), (a 21, .inl (aJ g, 10, .inr (.inl (lf64 X)))), (a 22, .inl (aJ g, 10, .inr (.inl (lf64 Y))))]) := by
  intro k
  induction k with
  | zero =>
    intro m X Y hm hk hV hX
    exfalso; omega
  | succ k ih =>
    intro m X Y hm hk hV hX
    refine j_iload (pc := 34) C d_Mod_fits_34 4 rfl ?_
    refine j_iload (pc := 36) C d_Mod_fits_36 3 rfl ?_
    refine j_icmp_geN (pc := 38) (tgt := 204) C (by omega) (by omega) d_Mod_fits_38 rfl (fun c38 => ?_) (fun c38 => ?_)
    · skip
      obtain rfl : m = k1 := by omega
      exact j_lv [0, 1, 2, 3, 4] rfl (K X Y hV hX)
    · skip
      refine j_iconst (pc := 41) (v := nI 0) C d_Mod_fits_41 (by decide) ?_
      refine j_istore (pc := 42) (lv' := [(6, .int (nI 0)), (0, .ref o), (1, .long (lN cv)), (3, .int (nI p)), (4, .int (nI k1)), (5, .int (nI m))]) C d_Mod_fits_42 (by decide) rfl ?_
      refine j_lv (lv' := [(0, .ref o), (1, .long (lN cv)), (3, .int (nI p)), (4, .int (nI k1)), (5, .int (nI m)), (6, .int (nI 0))]) [1, 2, 3, 4, 5, 0] rfl ?_
      refine lp_fb (o := o) (a := a) (cv := cv) (p := p) (k1 := k1) (sz := sz) (le := le) (ib := ib) (mn := mn) (pl := pl) (at_ := at_) (wr := wr) (wh := wh) (db := db) (m := m) (X := X) (fun Y1 hY1 => ?_) C 11 0 Y (by omega) (by omega) (fun j hj => absurd hj (by omega))
      show j_V g κ 0 0 65 [(0, .ref o), (1, .long (lN cv)), (3, .int (nI p)), (4, .int (nI k1)), (5, .int (nI m))] [] ([(o, .inr (6, mo a sz le ib mn pl at_ wr wh db)), (a 21, .inl (aJ g, 10, .inr (.inl (lf64 X)))), (a 22, .inl (aJ g, 10, .inr (.inl (lf64 Y1))))])
      refine j_iconst (pc := 65) (v := nI 0) C d_Mod_fits_65 (by decide) ?_
      refine j_istore (pc := 66) (lv' := [(6, .int (nI 0)), (0, .ref o), (1, .long (lN cv)), (3, .int (nI p)), (4, .int (nI k1)), (5, .int (nI m))]) C d_Mod_fits_66 (by decide) rfl ?_
      refine j_lv (lv' := [(0, .ref o), (1, .long (lN cv)), (3, .int (nI p)), (4, .int (nI k1)), (5, .int (nI m)), (6, .int (nI 0))]) [1, 2, 3, 4, 5, 0] rfl ?_
      refine lp_fd (o := o) (a := a) (cv := cv) (p := p) (k1 := k1) (sz := sz) (le := le) (ib := ib) (mn := mn) (pl := pl) (at_ := at_) (wr := wr) (wh := wh) (db := db) (m := m) (X := X) hcv hp hk1 hX (Vl_top (by rw [hV]; exact pw_lt hcv (by omega))) (fun Y2 hI2 hY2 => ?_) C 11 0 Y1 (by omega) (by omega) (by rw [Vl_z 10 hY1]; show 0 = 0 * cv + X 0 * 65536 ^ 0 * (cv % 65536 ^ 0); rw [Nat.pow_zero, Nat.mod_one, Nat.mul_zero, Nat.zero_mul]) (fun e he => by rw [hY1 e he]; omega)
      show j_V g κ 0 0 146 [(0, .ref o), (1, .long (lN cv)), (3, .int (nI p)), (4, .int (nI k1)), (5, .int (nI m))] [] ([(o, .inr (6, mo a sz le ib mn pl at_ wr wh db)), (a 21, .inl (aJ g, 10, .inr (.inl (lf64 X)))), (a 22, .inl (aJ g, 10, .inr (.inl (lf64 Y2))))])
      refine j_lconst (pc := 146) (v := 0) C d_Mod_fits_146 (by decide) ?_
      refine j_rwl (y := lN 0) (rfl) ?_
      refine j_lstore (pc := 147) (lv' := [(6, .long (lN 0)), (0, .ref o), (1, .long (lN cv)), (3, .int (nI p)), (4, .int (nI k1)), (5, .int (nI m))]) C d_Mod_fits_147 (by decide) rfl ?_
      refine j_iconst (pc := 149) (v := nI 0) C d_Mod_fits_149 (by decide) ?_
      refine j_istore (pc := 150) (lv' := [(8, .int (nI 0)), (6, .long (lN 0)), (0, .ref o), (1, .long (lN cv)), (3, .int (nI p)), (4, .int (nI k1)), (5, .int (nI m))]) C d_Mod_fits_150 (by decide) rfl ?_
      refine j_lv (lv' := [(0, .ref o), (1, .long (lN cv)), (3, .int (nI p)), (4, .int (nI k1)), (5, .int (nI m)), (6, .long (lN 0)), (8, .int (nI 0))]) [2, 3, 4, 5, 6, 1, 0] rfl ?_
      refine lp_fe (Y := Y2) (o := o) (a := a) (cv := cv) (p := p) (k1 := k1) (sz := sz) (le := le) (ib := ib) (mn := mn) (pl := pl) (at_ := at_) (wr := wr) (wh := wh) (db := db) (m := m) hY2 (fun X2 cr hI3 hX2 => ?_) C 11 0 X 0 (by omega) (by omega) (by show Vl X 0 + 0 * 65536 ^ 0 = 0; rfl) (fun j hj => absurd hj (by omega)) (by decide)
      have hV2 : Vl X2 10 = cv ^ (m + 1) := by
        rw [hI2, hV, pw_s] at hI3
        have h8 := pw_lt (m := m + 1) hcv (by omega)
        have h10 : (65536 : Nat) ^ 8 ≤ 65536 ^ 10 := Nat.pow_le_pow_right (by decide) (by decide)
        rcases Nat.eq_zero_or_pos cr with q | q
        · rw [q, Nat.zero_mul, Nat.add_zero] at hI3; exact hI3
        · have := Nat.mul_le_mul_right (65536 ^ 10) q; omega
      show j_V g κ 0 0 198 [(0, .ref o), (1, .long (lN cv)), (3, .int (nI p)), (4, .int (nI k1)), (5, .int (nI m))] [] ([(o, .inr (6, mo a sz le ib mn pl at_ wr wh db)), (a 21, .inl (aJ g, 10, .inr (.inl (lf64 X2)))), (a 22, .inl (aJ g, 10, .inr (.inl (lf64 Y2))))])
      refine j_iinc (pc := 198) (k := 4) (v := nI (m + 1)) (lv' := [(5, .int (nI (m + 1))), (0, .ref o), (1, .long (lN cv)), (3, .int (nI p)), (4, .int (nI k1))]) C d_Mod_fits_198 rfl (j_inc _ _) (by decide) rfl ?_
      refine j_goto (pc := 201) (tgt := 34) C d_Mod_fits_201 rfl ?_
      refine j_lv (lv' := [(0, .ref o), (1, .long (lN cv)), (3, .int (nI p)), (4, .int (nI k1)), (5, .int (nI (m + 1)))]) [1, 2, 3, 4, 0] rfl ?_
      exact ih (m + 1) X2 Y2 (by omega) (by omega) hV2 hX2
set_option maxHeartbeats 4000000 in
set_option maxRecDepth 100000 in
theorem lp_fz {g : JX} {κ : JK} {o : Nat} {a : Nat → Nat} {cv p k1 : Nat} {sz le ib mn pl at_ wr wh db : Int32} {X Y : Nat → Nat} (hcv : cv < 2 ^ 38) (hp : p < 65536) (hk1 : k1 ≤ 3) (hV : Vl X 10 = cv ^ k1) (hX : (∀ j, j < 10 → X j < 65536)) (C : j_C g κ b_Mod_fits R_Mod rm_Mod_fits 9) (hR : j_R g κ b_Mod_fits (some .boolean) (fun r w => ∃ X1 Y1 : Nat → Nat, r = some (.int (b2 (ft cv p k1))) ∧ w = [(o, .inr (6, mo a sz le ib mn pl at_ wr wh db)), (a 21, .inl (aJ g, 10, .inr (.inl (lf64 X1)))), (a 22, .inl (aJ g, 10, .inr (.inl (lf64 Y1))))]) 0 0) : ∀ (k : Nat) (r : Nat), r ≤ 10 → r + 1 ≤ k → (∀ j, r ≤ j → j < 10 → X j = tL p k1 j) → j_V g κ (0) (0) 214 [(0, .ref o), (1, .long (lN cv)), (3, .int (nI p)), (4, .int (nI k1)), (5, .int (nI (2 * k1))), (6, .int (dn r))] [] ([(o, .inr (6, mo a sz le ib mn pl at_ wr wh db)), (a 21, .inl (aJ g, 10, .inr (.inl (lf64 X)))), (a 22, .inl (aJ g, 10, .inr (.inl (lf64 Y))))]) := by
  intro k
  induction k with
  | zero =>
    intro r hr hk hE
    exfalso; omega
  | succ k ih =>
    intro r hr hk hE
    cases r with
    | zero =>
      show j_V g κ 0 0 214 [(0, .ref o), (1, .long (lN cv)), (3, .int (nI p)), (4, .int (nI k1)), (5, .int (nI (2 * k1))), (6, .int (-1 : Int32))] [] ([(o, .inr (6, mo a sz le ib mn pl at_ wr wh db)), (a 21, .inl (aJ g, 10, .inr (.inl (lf64 X)))), (a 22, .inl (aJ g, 10, .inr (.inl (lf64 Y))))])
      refine j_iload (pc := 214) C d_Mod_fits_214 5 rfl ?_
      refine j_ifdn_lt (pc := 216) (tgt := 272) C d_Mod_fits_216 rfl ?_
      refine j_iconst (pc := 272) (v := nI 1) C d_Mod_fits_272 (by decide) ?_
      exact hR.1 _ _ _ _ d_Mod_fits_273 ⟨_, rfl, by first | rfl | decide⟩ (⟨X, Y, by rw [show ft cv p k1 = true from ft_eq (by omega) hV (fun j hj => hE j (by omega) hj)]; rfl, rfl⟩)
    | succ r =>
      show j_V g κ 0 0 214 [(0, .ref o), (1, .long (lN cv)), (3, .int (nI p)), (4, .int (nI k1)), (5, .int (nI (2 * k1))), (6, .int (nI r))] [] ([(o, .inr (6, mo a sz le ib mn pl at_ wr wh db)), (a 21, .inl (aJ g, 10, .inr (.inl (lf64 X)))), (a 22, .inl (aJ g, 10, .inr (.inl (lf64 Y))))])
      refine j_iload (pc := 214) C d_Mod_fits_214 5 rfl ?_
      refine j_if_ltN (pc := 216) (tgt := 272) C (by omega) d_Mod_fits_216 rfl ?_
      refine j_iload (pc := 219) C d_Mod_fits_219 5 rfl ?_
      refine j_iload (pc := 221) C d_Mod_fits_221 4 rfl ?_
      refine j_icmp_neN (pc := 223) (tgt := 231) C (by omega) (by omega) d_Mod_fits_223 rfl (fun c223 => ?_) (fun c223 => ?_)
      · skip
        refine j_lconst (pc := 231) (v := 0) C d_Mod_fits_231 (by decide) ?_
        refine j_rwl (y := lN 0) (rfl) ?_
        refine j_rwl (y := lN (tL p k1 r)) (by unfold tL; first | rw [if_pos c223] | (rw [if_neg c223])) ?_
        refine j_lstore (pc := 232) (lv' := [(7, .long (lN (tL p k1 r))), (0, .ref o), (1, .long (lN cv)), (3, .int (nI p)), (4, .int (nI k1)), (5, .int (nI (2 * k1))), (6, .int (nI r))]) C d_Mod_fits_232 (by decide) rfl ?_
        refine j_aload_n (pc := 234) C d_Mod_fits_234 rfl 1 rfl ?_
        refine j_get (pc := 235) C F_Mod_78 0 rfl rfl d_Mod_fits_235 ?_
        refine j_iload (pc := 238) C d_Mod_fits_238 6 rfl ?_
        refine j_laldN (pc := 240) C 1 3 rfl rfl (by omega) (by omega) d_Mod_fits_240 ?_
        refine j_lload (pc := 241) C d_Mod_fits_241 0 rfl ?_
        refine j_lcmp (pc := 243) C d_Mod_fits_243 ?_
        refine j_if_eq (pc := 244) (tgt := 266) C d_Mod_fits_244 rfl (fun c244 => ?_) (fun c244 => ?_)
        · skip
          have hxr := hX r (by omega)
          have htr : tL p k1 r < 65536 := by unfold tL; split <;> omega
          have he9 : X r = tL p k1 r := (pk_lEQ (by omega) (by omega)).mp ((lg_cmp_eq _ _).mp c244)
          refine j_iinc (pc := 266) (k := 6) (v := dn r) (lv' := [(6, .int (dn r)), (7, .long (lN (tL p k1 r))), (0, .ref o), (1, .long (lN cv)), (3, .int (nI p)), (4, .int (nI k1)), (5, .int (nI (2 * k1)))]) C d_Mod_fits_266 rfl (dn_dec r) (by decide) rfl ?_
          refine j_goto (pc := 269) (tgt := 214) C d_Mod_fits_269 rfl ?_
          refine j_lv (lv' := [(0, .ref o), (1, .long (lN cv)), (3, .int (nI p)), (4, .int (nI k1)), (5, .int (nI (2 * k1))), (6, .int (dn r))]) [2, 3, 4, 5, 6, 0] rfl ?_
          exact ih r (by omega) (by omega) (fun j h1 h2 => if q : j = r then (by rw [q]; exact he9) else hE j (by omega) h2)
        · skip
          have hxr := hX r (by omega)
          have htr : tL p k1 r < 65536 := by unfold tL; split <;> omega
          have hne : ¬ X r = tL p k1 r := fun q => c244 ((lg_cmp_eq _ _).mpr (by show lN (X r) = _; rw [q]))
          refine j_aload_n (pc := 247) C d_Mod_fits_247 rfl 1 rfl ?_
          refine j_get (pc := 248) C F_Mod_78 0 rfl rfl d_Mod_fits_248 ?_
          refine j_iload (pc := 251) C d_Mod_fits_251 6 rfl ?_
          refine j_laldN (pc := 253) C 1 3 rfl rfl (by omega) (by omega) d_Mod_fits_253 ?_
          refine j_lload (pc := 254) C d_Mod_fits_254 0 rfl ?_
          refine j_lcmp (pc := 256) C d_Mod_fits_256 ?_
          refine j_if_ge (pc := 257) (tgt := 264) C d_Mod_fits_257 rfl (fun c257 => ?_) (fun c257 => ?_)
          · skip
            refine j_iconst (pc := 264) (v := nI 0) C d_Mod_fits_264 (by decide) ?_
            exact hR.1 _ _ _ _ d_Mod_fits_265 ⟨_, rfl, by first | rfl | decide⟩ (⟨X, Y, by rw [show ft cv p k1 = false from by first | exact ft_lt (by omega) hV hX (by omega) (fun j h1 h2 => hE j (by omega) h2) (wzc_1 rfl (by omega) (by omega) c257) | exact ft_gt hp (by omega) hV (by omega) (fun j h1 h2 => hE j (by omega) h2) (Nat.lt_of_le_of_ne (wzc_2 rfl (by omega) (by omega) c257) (fun q => hne q.symm))]; rfl, rfl⟩)
          · skip
            refine j_iconst (pc := 260) (v := nI 1) C d_Mod_fits_260 (by decide) ?_
            refine j_goto (pc := 261) (tgt := 265) C d_Mod_fits_261 rfl ?_
            exact hR.1 _ _ _ _ d_Mod_fits_265 ⟨_, rfl, by first | rfl | decide⟩ (⟨X, Y, by rw [show ft cv p k1 = true from by first | exact ft_lt (by omega) hV hX (by omega) (fun j h1 h2 => hE j (by omega) h2) (wzc_1 rfl (by omega) (by omega) c257) | exact ft_gt hp (by omega) hV (by omega) (fun j h1 h2 => hE j (by omega) h2) (Nat.lt_of_le_of_ne (wzc_2 rfl (by omega) (by omega) c257) (fun q => hne q.symm))]; rfl, rfl⟩)
      · skip
        refine j_iload_n (pc := 226) C d_Mod_fits_226 rfl 2 rfl ?_
        refine j_i2l (pc := 227) (v := lN p) C d_Mod_fits_227 (nI_l (by omega)) ?_
        refine j_goto (pc := 228) (tgt := 232) C d_Mod_fits_228 rfl ?_
        refine j_rwl (y := lN (tL p k1 r)) (by unfold tL; first | rw [if_pos c223] | (rw [if_neg c223])) ?_
        refine j_lstore (pc := 232) (lv' := [(7, .long (lN (tL p k1 r))), (0, .ref o), (1, .long (lN cv)), (3, .int (nI p)), (4, .int (nI k1)), (5, .int (nI (2 * k1))), (6, .int (nI r))]) C d_Mod_fits_232 (by decide) rfl ?_
        refine j_aload_n (pc := 234) C d_Mod_fits_234 rfl 1 rfl ?_
        refine j_get (pc := 235) C F_Mod_78 0 rfl rfl d_Mod_fits_235 ?_
        refine j_iload (pc := 238) C d_Mod_fits_238 6 rfl ?_
        refine j_laldN (pc := 240) C 1 3 rfl rfl (by omega) (by omega) d_Mod_fits_240 ?_
        refine j_lload (pc := 241) C d_Mod_fits_241 0 rfl ?_
        refine j_lcmp (pc := 243) C d_Mod_fits_243 ?_
        refine j_if_eq (pc := 244) (tgt := 266) C d_Mod_fits_244 rfl (fun c244 => ?_) (fun c244 => ?_)
        · skip
          have hxr := hX r (by omega)
          have htr : tL p k1 r < 65536 := by unfold tL; split <;> omega
          have he9 : X r = tL p k1 r := (pk_lEQ (by omega) (by omega)).mp ((lg_cmp_eq _ _).mp c244)
          refine j_iinc (pc := 266) (k := 6) (v := dn r) (lv' := [(6, .int (dn r)), (7, .long (lN (tL p k1 r))), (0, .ref o), (1, .long (lN cv)), (3, .int (nI p)), (4, .int (nI k1)), (5, .int (nI (2 * k1)))]) C d_Mod_fits_266 rfl (dn_dec r) (by decide) rfl ?_
          refine j_goto (pc := 269) (tgt := 214) C d_Mod_fits_269 rfl ?_
          refine j_lv (lv' := [(0, .ref o), (1, .long (lN cv)), (3, .int (nI p)), (4, .int (nI k1)), (5, .int (nI (2 * k1))), (6, .int (dn r))]) [2, 3, 4, 5, 6, 0] rfl ?_
          exact ih r (by omega) (by omega) (fun j h1 h2 => if q : j = r then (by rw [q]; exact he9) else hE j (by omega) h2)
        · skip
          have hxr := hX r (by omega)
          have htr : tL p k1 r < 65536 := by unfold tL; split <;> omega
          have hne : ¬ X r = tL p k1 r := fun q => c244 ((lg_cmp_eq _ _).mpr (by show lN (X r) = _; rw [q]))
          refine j_aload_n (pc := 247) C d_Mod_fits_247 rfl 1 rfl ?_
          refine j_get (pc := 248) C F_Mod_78 0 rfl rfl d_Mod_fits_248 ?_
          refine j_iload (pc := 251) C d_Mod_fits_251 6 rfl ?_
          refine j_laldN (pc := 253) C 1 3 rfl rfl (by omega) (by omega) d_Mod_fits_253 ?_
          refine j_lload (pc := 254) C d_Mod_fits_254 0 rfl ?_
          refine j_lcmp (pc := 256) C d_Mod_fits_256 ?_
          refine j_if_ge (pc := 257) (tgt := 264) C d_Mod_fits_257 rfl (fun c257 => ?_) (fun c257 => ?_)
          · skip
            refine j_iconst (pc := 264) (v := nI 0) C d_Mod_fits_264 (by decide) ?_
            exact hR.1 _ _ _ _ d_Mod_fits_265 ⟨_, rfl, by first | rfl | decide⟩ (⟨X, Y, by rw [show ft cv p k1 = false from by first | exact ft_lt (by omega) hV hX (by omega) (fun j h1 h2 => hE j (by omega) h2) (wzc_1 rfl (by omega) (by omega) c257) | exact ft_gt hp (by omega) hV (by omega) (fun j h1 h2 => hE j (by omega) h2) (Nat.lt_of_le_of_ne (wzc_2 rfl (by omega) (by omega) c257) (fun q => hne q.symm))]; rfl, rfl⟩)
          · skip
            refine j_iconst (pc := 260) (v := nI 1) C d_Mod_fits_260 (by decide) ?_
            refine j_goto (pc := 261) (tgt := 265) C d_Mod_fits_261 rfl ?_
            exact hR.1 _ _ _ _ d_Mod_fits_265 ⟨_, rfl, by first | rfl | decide⟩ (⟨X, Y, by rw [show ft cv p k1 = true from by first | exact ft_lt (by omega) hV hX (by omega) (fun j h1 h2 => hE j (by omega) h2) (wzc_1 rfl (by omega) (by omega) c257) | exact ft_gt hp (by omega) hV (by omega) (fun j h1 h2 => hE j (by omega) h2) (Nat.lt_of_le_of_ne (wzc_2 rfl (by omega) (by omega) c257) (fun q => hne q.symm))]; rfl, rfl⟩)
set_option maxHeartbeats 4000000 in
set_option maxRecDepth 100000 in
theorem c_Mod_fits (l : Launch) (g : JX) (o : Nat) (a : Nat → Nat) (cv p k1 : Nat) (X Y : Nat → Nat) (sz le ib mn pl at_ wr wh db : Int32) (hcv : cv < 2 ^ 38) (hp : p < 65536) (hk1 : k1 ≤ 3)  : j_Ct l y_Mod_fits b_Mod_fits 9 (some .boolean) rm_Mod_fits g ([(o, .inr (6, mo a sz le ib mn pl at_ wr wh db)), (a 21, .inl (aJ g, 10, .inr (.inl (lf64 X)))), (a 22, .inl (aJ g, 10, .inr (.inl (lf64 Y))))]) [.ref o, .long (lN cv), .int (nI p), .int (nI k1)] (fun r w => ∃ X1 Y1 : Nat → Nat, r = some (.int (b2 (ft cv p k1))) ∧ w = [(o, .inr (6, mo a sz le ib mn pl at_ wr wh db)), (a 21, .inl (aJ g, 10, .inr (.inl (lf64 X1)))), (a 22, .inl (aJ g, 10, .inr (.inl (lf64 Y1))))]) 0 0 := by
  refine j_ct (by decide) (Nat.le_of_ble_eq_true rfl) (fun κ hkl C hR hI => ?_)
  show j_V g κ 0 0 0 [(0, .ref o), (1, .long (lN cv)), (3, .int (nI p)), (4, .int (nI k1))] [] ([(o, .inr (6, mo a sz le ib mn pl at_ wr wh db)), (a 21, .inl (aJ g, 10, .inr (.inl (lf64 X)))), (a 22, .inl (aJ g, 10, .inr (.inl (lf64 Y))))])
  refine j_iconst (pc := 0) (v := nI 0) C d_Mod_fits_0 (by decide) ?_
  refine j_istore (pc := 1) (lv' := [(5, .int (nI 0)), (0, .ref o), (1, .long (lN cv)), (3, .int (nI p)), (4, .int (nI k1))]) C d_Mod_fits_1 (by decide) rfl ?_
  refine j_lv (lv' := [(0, .ref o), (1, .long (lN cv)), (3, .int (nI p)), (4, .int (nI k1)), (5, .int (nI 0))]) [1, 2, 3, 4, 0] rfl ?_
  refine lp_fa (o := o) (a := a) (cv := cv) (p := p) (k1 := k1) (sz := sz) (le := le) (ib := ib) (mn := mn) (pl := pl) (at_ := at_) (wr := wr) (wh := wh) (db := db) (Y := Y) (fun X1 hX1 => ?_) C 11 0 X (by omega) (by omega) (fun j hj => absurd hj (by omega))
  show j_V g κ 0 0 24 [(0, .ref o), (1, .long (lN cv)), (3, .int (nI p)), (4, .int (nI k1))] [] ([(o, .inr (6, mo a sz le ib mn pl at_ wr wh db)), (a 21, .inl (aJ g, 10, .inr (.inl (lf64 X1)))), (a 22, .inl (aJ g, 10, .inr (.inl (lf64 Y))))])
  refine j_aload_n (pc := 24) C d_Mod_fits_24 rfl 0 rfl ?_
  refine j_get (pc := 25) C F_Mod_78 0 rfl rfl d_Mod_fits_25 ?_
  refine j_iconst (pc := 28) (v := nI 0) C d_Mod_fits_28 (by decide) ?_
  refine j_lconst (pc := 29) (v := 1) C d_Mod_fits_29 (by decide) ?_
  refine j_rwl (y := lN 1) (rfl) ?_
  refine j_lastB (pc := 30) (ws' := [(o, .inr (6, mo a sz le ib mn pl at_ wr wh db)), (a 21, .inl (aJ g, 10, .inr (.inl (lf64 (va_up X1 0 1))))), (a 22, .inl (aJ g, 10, .inr (.inl (lf64 Y))))]) C 1 3 rfl rfl (by omega) (by omega) rfl d_Mod_fits_30 ?_
  refine j_iconst (pc := 31) (v := nI 0) C d_Mod_fits_31 (by decide) ?_
  refine j_istore (pc := 32) (lv' := [(5, .int (nI 0)), (0, .ref o), (1, .long (lN cv)), (3, .int (nI p)), (4, .int (nI k1))]) C d_Mod_fits_32 (by decide) rfl ?_
  refine j_lv (lv' := [(0, .ref o), (1, .long (lN cv)), (3, .int (nI p)), (4, .int (nI k1)), (5, .int (nI 0))]) [1, 2, 3, 4, 0] rfl ?_
  have h1 : ∀ j, j < 10 → 0 < j → va_up X1 0 1 j = 0 := fun j hj h0 => by rw [va_up_ne _ _ (by omega)]; exact hX1 j hj
  have h2 : ∀ j, j < 10 → va_up X1 0 1 j < 65536 := fun j hj => if q : j = 0 then (by rw [q, va_up_self]; decide) else (by rw [h1 j hj (by omega)]; decide)
  refine lp_fp (o := o) (a := a) (cv := cv) (p := p) (k1 := k1) (sz := sz) (le := le) (ib := ib) (mn := mn) (pl := pl) (at_ := at_) (wr := wr) (wh := wh) (db := db) hcv hp hk1 (fun X2 Y2 hV2 hX2 => ?_) C (k1 + 1) 0 (va_up X1 0 1) Y (by omega) (by omega) (Vl_one (va_up_self _ _ _) h1) h2
  show j_V g κ 0 0 204 [(0, .ref o), (1, .long (lN cv)), (3, .int (nI p)), (4, .int (nI k1)), (5, .int (nI k1))] [] ([(o, .inr (6, mo a sz le ib mn pl at_ wr wh db)), (a 21, .inl (aJ g, 10, .inr (.inl (lf64 X2)))), (a 22, .inl (aJ g, 10, .inr (.inl (lf64 Y2))))])
  refine j_iconst (pc := 204) (v := nI 2) C d_Mod_fits_204 (by decide) ?_
  refine j_iload (pc := 205) C d_Mod_fits_205 3 rfl ?_
  refine j_imulN (pc := 207) C d_Mod_fits_207 ?_
  refine j_istore (pc := 208) (lv' := [(5, .int (nI (2 * k1))), (0, .ref o), (1, .long (lN cv)), (3, .int (nI p)), (4, .int (nI k1))]) C d_Mod_fits_208 (by decide) rfl ?_
  refine j_bipush (pc := 210) (v := nI 9) C d_Mod_fits_210 (by decide) ?_
  refine j_istore (pc := 212) (lv' := [(6, .int (nI 9)), (5, .int (nI (2 * k1))), (0, .ref o), (1, .long (lN cv)), (3, .int (nI p)), (4, .int (nI k1))]) C d_Mod_fits_212 (by decide) rfl ?_
  refine j_lv (lv' := [(0, .ref o), (1, .long (lN cv)), (3, .int (nI p)), (4, .int (nI k1)), (5, .int (nI (2 * k1))), (6, .int (nI 9))]) [2, 3, 4, 5, 1, 0] rfl ?_
  exact lp_fz (X := X2) (Y := Y2) (o := o) (a := a) (cv := cv) (p := p) (k1 := k1) (sz := sz) (le := le) (ib := ib) (mn := mn) (pl := pl) (at_ := at_) (wr := wr) (wh := wh) (db := db) hcv hp hk1 hV2 hX2 C hR 11 10 (by omega) (by omega) (fun j h1 h2 => absurd h2 (by omega))
abbrev rm_Mod_rootOf : Room := { frames := 1, cells := 0, slots := 0, locals := 28 }
set_option maxHeartbeats 4000000 in
set_option maxRecDepth 100000 in
theorem lp_rt {g : JX} {κ : JK} {o : Nat} {a : Nat → Nat} {p k1 : Nat} {sz le ib mn pl at_ wr wh db : Int32} (hp : p < 65536) (hk1 : k1 ≤ 3) (C : j_C g κ b_Mod_rootOf R_Mod rm_Mod_rootOf 6) (hR : j_R g κ b_Mod_rootOf (some .long) (fun r w => ∃ X1 Y1 : Nat → Nat, r = some (.long (lN (rtB p k1 37 0))) ∧ w = [(o, .inr (6, mo a sz le ib mn pl at_ wr wh db)), (a 21, .inl (aJ g, 10, .inr (.inl (lf64 X1)))), (a 22, .inl (aJ g, 10, .inr (.inl (lf64 Y1))))]) 0 0) : ∀ (k : Nat) (b r : Nat) (X Y : Nat → Nat), b ≤ 37 → b + 1 ≤ k → r + 2 ^ b ≤ 2 ^ 37 → rtB p k1 b r = rtB p k1 37 0 → j_V g κ (0) (0) 6 [(0, .ref o), (1, .int (nI p)), (2, .int (nI k1)), (3, .long (lN r)), (5, .int (dn b))] [] ([(o, .inr (6, mo a sz le ib mn pl at_ wr wh db)), (a 21, .inl (aJ g, 10, .inr (.inl (lf64 X)))), (a 22, .inl (aJ g, 10, .inr (.inl (lf64 Y))))]) := by
  intro k
  induction k with
  | zero =>
    intro b r X Y hb hk hr hE
    exfalso; omega
  | succ k ih =>
    intro b r X Y hb hk hr hE
    cases b with
    | zero =>
      show j_V g κ 0 0 6 [(0, .ref o), (1, .int (nI p)), (2, .int (nI k1)), (3, .long (lN r)), (5, .int (-1 : Int32))] [] ([(o, .inr (6, mo a sz le ib mn pl at_ wr wh db)), (a 21, .inl (aJ g, 10, .inr (.inl (lf64 X)))), (a 22, .inl (aJ g, 10, .inr (.inl (lf64 Y))))])
      refine j_iload (pc := 6) C d_Mod_rootOf_6 4 rfl ?_
      refine j_ifdn_lt (pc := 8) (tgt := 39) C d_Mod_rootOf_8 rfl ?_
      refine j_lload_n (pc := 39) C d_Mod_rootOf_39 rfl 3 rfl ?_
      exact hR.2.1 _ _ _ _ d_Mod_rootOf_40 rfl (⟨X, Y, by rw [← hE]; rfl, rfl⟩)
    | succ b =>
      have hpb : 2 ^ (b + 1) = 2 ^ b + 2 ^ b := by rw [Nat.pow_succ]; omega
      have hpp : 0 < 2 ^ b := Nat.pow_pos (by decide)
      show j_V g κ 0 0 6 [(0, .ref o), (1, .int (nI p)), (2, .int (nI k1)), (3, .long (lN r)), (5, .int (nI b))] [] ([(o, .inr (6, mo a sz le ib mn pl at_ wr wh db)), (a 21, .inl (aJ g, 10, .inr (.inl (lf64 X)))), (a 22, .inl (aJ g, 10, .inr (.inl (lf64 Y))))])
      refine j_iload (pc := 6) C d_Mod_rootOf_6 4 rfl ?_
      refine j_if_ltN (pc := 8) (tgt := 39) C (by omega) d_Mod_rootOf_8 rfl ?_
      refine j_aload_n (pc := 11) C d_Mod_rootOf_11 rfl 0 rfl ?_
      refine j_lload_n (pc := 12) C d_Mod_rootOf_12 rfl 3 rfl ?_
      refine j_lconst (pc := 13) (v := 1) C d_Mod_rootOf_13 (by decide) ?_
      refine j_rwl (y := lN 1) (rfl) ?_
      refine j_iload (pc := 14) C d_Mod_rootOf_14 4 rfl ?_
      refine j_lshl (pc := 16) (v := (lN 1) <<< ((nI b).toInt64 &&& 63)) C d_Mod_rootOf_16 rfl ?_
      refine j_rwl (y := lN (2 ^ b)) (by rw [wb_shl 1 (by omega), Nat.one_mul]) ?_
      refine j_laddN (pc := 17) C d_Mod_rootOf_17 ?_
      refine j_iload_n (pc := 18) C d_Mod_rootOf_18 rfl 1 rfl ?_
      refine j_iload_n (pc := 19) C d_Mod_rootOf_19 rfl 2 rfl ?_
      refine j_callV (pc := 20) (As := [.long (lN (r + (2 ^ b))), .int (nI p), .int (nI k1)]) (rest := []) (wc := [(o, .inr (6, mo a sz le ib mn pl at_ wr wh db)), (a 21, .inl (aJ g, 10, .inr (.inl (lf64 X)))), (a 22, .inl (aJ g, 10, .inr (.inl (lf64 Y))))]) (wr := []) C (c_Mod_fits (kl κ) g o a (r + (2 ^ b)) p k1 X Y sz le ib mn pl at_ wr wh db (by omega) (by omega) (by omega)) Y_Mod_fits ml_Mod_94 im_Mod_fits sl_Mod_fits rfl ⟨by decide, by decide⟩ rfl (ci := 6) (q0 := 0) rfl rfl rfl (Nat.le_of_ble_eq_true rfl) (j_sb [0, 1, 2] rfl rfl) rfl d_Mod_rootOf_20 (fun r w1 hO => ?_)
      obtain ⟨X1, Y1, rfl, rfl⟩ := hO
      show j_V g κ 0 0 23 [(0, .ref o), (1, .int (nI p)), (2, .int (nI k1)), (3, .long (lN r)), (5, .int (nI b))] [.int (if ft (r + (2 ^ b)) p k1 = true then (1 : Int32) else 0)] ([(o, .inr (6, mo a sz le ib mn pl at_ wr wh db)), (a 21, .inl (aJ g, 10, .inr (.inl (lf64 X1)))), (a 22, .inl (aJ g, 10, .inr (.inl (lf64 Y1))))])
      refine j_if_eqB (pc := 23) (tgt := 33) C d_Mod_rootOf_23 rfl (fun c23 => ?_) (fun c23 => ?_)
      · skip
        refine j_iinc (pc := 33) (k := 4) (v := dn b) (lv' := [(5, .int (dn b)), (0, .ref o), (1, .int (nI p)), (2, .int (nI k1)), (3, .long (lN r))]) C d_Mod_rootOf_33 rfl (dn_dec b) (by decide) rfl ?_
        refine j_goto (pc := 36) (tgt := 6) C d_Mod_rootOf_36 rfl ?_
        refine j_lv (lv' := [(0, .ref o), (1, .int (nI p)), (2, .int (nI k1)), (3, .long (lN r)), (5, .int (dn b))]) [1, 2, 3, 4, 0] rfl ?_
        exact ih b (r) X1 Y1 (by omega) (by omega) (by omega) (by rw [← hE]; show _ = rtB p k1 b (if ft (r + 2 ^ b) p k1 = true then r + 2 ^ b else r); first | rw [if_pos c23] | rw [if_neg c23])
      · skip
        refine j_lload_n (pc := 26) C d_Mod_rootOf_26 rfl 3 rfl ?_
        refine j_lconst (pc := 27) (v := 1) C d_Mod_rootOf_27 (by decide) ?_
        refine j_rwl (y := lN 1) (rfl) ?_
        refine j_iload (pc := 28) C d_Mod_rootOf_28 4 rfl ?_
        refine j_lshl (pc := 30) (v := (lN 1) <<< ((nI b).toInt64 &&& 63)) C d_Mod_rootOf_30 rfl ?_
        refine j_rwl (y := lN (2 ^ b)) (by rw [wb_shl 1 (by omega), Nat.one_mul]) ?_
        refine j_laddN (pc := 31) C d_Mod_rootOf_31 ?_
        refine j_lstore_n (pc := 32) (lv' := [(3, .long (lN (r + (2 ^ b)))), (0, .ref o), (1, .int (nI p)), (2, .int (nI k1)), (5, .int (nI b))]) C d_Mod_rootOf_32 rfl (by decide) rfl ?_
        refine j_iinc (pc := 33) (k := 4) (v := dn b) (lv' := [(5, .int (dn b)), (3, .long (lN (r + (2 ^ b)))), (0, .ref o), (1, .int (nI p)), (2, .int (nI k1))]) C d_Mod_rootOf_33 rfl (dn_dec b) (by decide) rfl ?_
        refine j_goto (pc := 36) (tgt := 6) C d_Mod_rootOf_36 rfl ?_
        refine j_lv (lv' := [(0, .ref o), (1, .int (nI p)), (2, .int (nI k1)), (3, .long (lN (r + (2 ^ b)))), (5, .int (dn b))]) [2, 3, 4, 1, 0] rfl ?_
        exact ih b (r + (2 ^ b)) X1 Y1 (by omega) (by omega) (by omega) (by rw [← hE]; show _ = rtB p k1 b (if ft (r + 2 ^ b) p k1 = true then r + 2 ^ b else r); first | rw [if_pos c23] | rw [if_neg c23])
set_option maxHeartbeats 4000000 in
set_option maxRecDepth 100000 in
theorem c_Mod_rootOf (l : Launch) (g : JX) (o : Nat) (a : Nat → Nat) (p k1 : Nat) (X Y : Nat → Nat) (sz le ib mn pl at_ wr wh db : Int32) (hp : p < 65536) (hk1 : k1 ≤ 3) : j_Ct l y_Mod_rootOf b_Mod_rootOf 6 (some .long) rm_Mod_rootOf g ([(o, .inr (6, mo a sz le ib mn pl at_ wr wh db)), (a 21, .inl (aJ g, 10, .inr (.inl (lf64 X)))), (a 22, .inl (aJ g, 10, .inr (.inl (lf64 Y))))]) [.ref o, .int (nI p), .int (nI k1)] (fun r w => ∃ X1 Y1 : Nat → Nat, r = some (.long (lN (rtB p k1 37 0))) ∧ w = [(o, .inr (6, mo a sz le ib mn pl at_ wr wh db)), (a 21, .inl (aJ g, 10, .inr (.inl (lf64 X1)))), (a 22, .inl (aJ g, 10, .inr (.inl (lf64 Y1))))]) 0 0 := by
  refine j_ct (by decide) (Nat.le_of_ble_eq_true rfl) (fun κ hkl C hR hI => ?_)
  show j_V g κ 0 0 0 [(0, .ref o), (1, .int (nI p)), (2, .int (nI k1))] [] ([(o, .inr (6, mo a sz le ib mn pl at_ wr wh db)), (a 21, .inl (aJ g, 10, .inr (.inl (lf64 X)))), (a 22, .inl (aJ g, 10, .inr (.inl (lf64 Y))))])
  refine j_lconst (pc := 0) (v := 0) C d_Mod_rootOf_0 (by decide) ?_
  refine j_rwl (y := lN 0) (rfl) ?_
  refine j_lstore_n (pc := 1) (lv' := [(3, .long (lN 0)), (0, .ref o), (1, .int (nI p)), (2, .int (nI k1))]) C d_Mod_rootOf_1 rfl (by decide) rfl ?_
  refine j_bipush (pc := 2) (v := nI 36) C d_Mod_rootOf_2 (by decide) ?_
  refine j_istore (pc := 4) (lv' := [(5, .int (nI 36)), (3, .long (lN 0)), (0, .ref o), (1, .int (nI p)), (2, .int (nI k1))]) C d_Mod_rootOf_4 (by decide) rfl ?_
  refine j_lv (lv' := [(0, .ref o), (1, .int (nI p)), (2, .int (nI k1)), (3, .long (lN 0)), (5, .int (nI 36))]) [2, 3, 4, 1, 0] rfl ?_
  exact lp_rt (o := o) (a := a) (p := p) (k1 := k1) (sz := sz) (le := le) (ib := ib) (mn := mn) (pl := pl) (at_ := at_) (wr := wr) (wh := wh) (db := db) hp hk1 C hR 38 37 0 X Y (by omega) (by omega) (by decide) rfl
