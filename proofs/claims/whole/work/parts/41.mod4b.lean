abbrev rm_Mod_name : Room := { frames := 0, cells := 0, slots := 0, locals := 0 }
set_option maxHeartbeats 4000000 in
set_option maxRecDepth 100000 in
theorem lp_nm_u {g : JX} {κ : JK} {o n cnt u k1 : Nat} {a : Nat → Nat} {t v c : Nat → Nat} {blk : Bool} {sz pl db q wr z : Int32} (hn : n ≤ 2000) (hT : ∀ j, t j < 256) (hv : ∀ j, v j < 256) (hcc : ∀ j, c j < 256) (hc : cnt ≤ 12) (hu : u < 12) (hk1 : k1 < 4) (C : j_C g κ b_Mod_name R_Mod rm_Mod_name 6) (hR : j_R g κ b_Mod_name (some .long) (fun r w => r = some (.long (lN (be v (32 * u + 8 * k1) 8))) ∧ w = [(o, .inr (6, mo a sz (nI n) (if blk = true then (1 : Int32) else 0) (nI cnt) pl q wr z db)), (a 1, .inl (aI g, 2000, .inl (nf t))), (a 12, .inl (aI g, 416, .inl (nf v))), (a 14, .inl (aI g, 32, .inl (nf c)))]) 0 0) : ∀ (k : Nat) (m : Nat), m ≤ 8 → 8 + 1 ≤ m + k → j_V g κ (0) (0) 47 [(0, .ref o), (1, .int (nI u)), (2, .int (nI k1)), (3, .long (lN (be v (32 * u + 8 * k1) m))), (5, .int (nI (8 * k1 + m)))] [] ([(o, .inr (6, mo a sz (nI n) (if blk = true then (1 : Int32) else 0) (nI cnt) pl q wr z db)), (a 1, .inl (aI g, 2000, .inl (nf t))), (a 12, .inl (aI g, 416, .inl (nf v))), (a 14, .inl (aI g, 32, .inl (nf c)))]) := by
  intro k
  induction k with
  | zero =>
    intro m hm hk
    exfalso; omega
  | succ k ih =>
    intro m hm hk
    refine j_iload (pc := 47) C d_Mod_name_47 4 rfl ?_
    refine j_bipush (pc := 49) (v := nI 8) C d_Mod_name_49 (by decide) ?_
    refine j_iload_n (pc := 51) C d_Mod_name_51 rfl 2 rfl ?_
    refine j_imulN (pc := 52) C d_Mod_name_52 ?_
    refine j_bipush (pc := 53) (v := nI 8) C d_Mod_name_53 (by decide) ?_
    refine j_iaddN (pc := 55) C d_Mod_name_55 ?_
    refine j_icmp_geN (pc := 56) (tgt := 129) C (by omega) (by omega) d_Mod_name_56 rfl (fun c56 => ?_) (fun c56 => ?_)
    · skip
      refine j_lload_n (pc := 129) C d_Mod_name_129 rfl 3 rfl ?_
      exact hR.2.1 _ _ _ _ d_Mod_name_130 rfl (⟨by rw [show m = 8 by omega], rfl⟩)
    · skip
      refine j_lload_n (pc := 59) C d_Mod_name_59 rfl 3 rfl ?_
      refine j_bipush (pc := 60) (v := nI 8) C d_Mod_name_60 (by decide) ?_
      refine j_lshl (pc := 62) (v := (lN (be v (32 * u + 8 * k1) m)) <<< ((nI 8).toInt64 &&& 63)) C d_Mod_name_62 rfl ?_
      refine j_iload_n (pc := 63) C d_Mod_name_63 rfl 1 rfl ?_
      refine j_bipush (pc := 64) (v := (-2 : Int32)) C d_Mod_name_64 (by decide) ?_
      refine j_icmp_ne (pc := 66) (tgt := 82) C d_Mod_name_66 rfl (fun c66 => ?_) (fun c66 => ?_)
      · skip
        refine j_iload_n (pc := 82) C d_Mod_name_82 rfl 1 rfl ?_
        refine j_bipush (pc := 83) (v := (-3 : Int32)) C d_Mod_name_83 (by decide) ?_
        refine j_icmp_ne (pc := 85) (tgt := 98) C d_Mod_name_85 rfl (fun c85 => ?_) (fun c85 => ?_)
        · skip
          refine j_aload_n (pc := 98) C d_Mod_name_98 rfl 0 rfl ?_
          refine j_get (pc := 99) C F_Mod_50 0 rfl rfl d_Mod_name_99 ?_
          refine j_bipush (pc := 102) (v := nI 32) C d_Mod_name_102 (by decide) ?_
          refine j_iload_n (pc := 104) C d_Mod_name_104 rfl 1 rfl ?_
          refine j_iconst (pc := 105) (v := (-1 : Int32)) C d_Mod_name_105 (by decide) ?_
          refine j_icmp_ne (pc := 106) (tgt := 114) C d_Mod_name_106 rfl (fun c106 => ?_) (fun c106 => ?_)
          · skip
            refine j_iload_n (pc := 114) C d_Mod_name_114 rfl 1 rfl ?_
            refine j_imulN (pc := 115) C d_Mod_name_115 ?_
            refine j_iload (pc := 116) C d_Mod_name_116 4 rfl ?_
            refine j_iaddN (pc := 118) C d_Mod_name_118 ?_
            refine j_ialdN (pc := 119) C 2 1 rfl rfl (by omega) (by omega) d_Mod_name_119 ?_
            refine j_i2l (pc := 120) (v := lN (v ((32 * u) + (8 * k1 + m)))) C d_Mod_name_120 (nI_l (by have h9 := hv ((32 * u) + (8 * k1 + m)); omega)) ?_
            refine j_lor (pc := 121) C d_Mod_name_121 ?_
            refine j_rwl (y := lN (be v (32 * u + 8 * k1) (m + 1))) (be_push2 hv (by omega) (by omega)) ?_
            refine j_lstore_n (pc := 122) (lv' := [(3, .long (lN (be v (32 * u + 8 * k1) (m + 1)))), (0, .ref o), (1, .int (nI u)), (2, .int (nI k1)), (5, .int (nI (8 * k1 + m)))]) C d_Mod_name_122 rfl (by decide) rfl ?_
            refine j_iinc (pc := 123) (k := 4) (v := nI (8 * k1 + m + 1)) (lv' := [(5, .int (nI (8 * k1 + m + 1))), (3, .long (lN (be v (32 * u + 8 * k1) (m + 1)))), (0, .ref o), (1, .int (nI u)), (2, .int (nI k1))]) C d_Mod_name_123 rfl (j_inc _ _) (by decide) rfl ?_
            refine j_goto (pc := 126) (tgt := 47) C d_Mod_name_126 rfl ?_
            refine j_lv (lv' := [(0, .ref o), (1, .int (nI u)), (2, .int (nI k1)), (3, .long (lN (be v (32 * u + 8 * k1) (m + 1)))), (5, .int (nI (8 * k1 + m + 1)))]) [2, 3, 4, 1, 0] rfl ?_
            exact ih (m + 1) (by omega) (by omega)
          · skip
            exact absurd c106 (nI_nq (by omega) (by decide))
        · skip
          exact absurd c85 (nI_nq (by omega) (by decide))
      · skip
        exact absurd c66 (nI_nq (by omega) (by decide))
set_option maxHeartbeats 4000000 in
set_option maxRecDepth 100000 in
theorem lp_nm_m1 {g : JX} {κ : JK} {o n cnt u k1 : Nat} {a : Nat → Nat} {t v c : Nat → Nat} {blk : Bool} {sz pl db q wr z : Int32} (hn : n ≤ 2000) (hT : ∀ j, t j < 256) (hv : ∀ j, v j < 256) (hcc : ∀ j, c j < 256) (hc : cnt ≤ 12) (hu : u < 12) (hk1 : k1 < 4) (C : j_C g κ b_Mod_name R_Mod rm_Mod_name 6) (hR : j_R g κ b_Mod_name (some .long) (fun r w => r = some (.long (lN (be v (384 + 8 * k1) 8))) ∧ w = [(o, .inr (6, mo a sz (nI n) (if blk = true then (1 : Int32) else 0) (nI cnt) pl q wr z db)), (a 1, .inl (aI g, 2000, .inl (nf t))), (a 12, .inl (aI g, 416, .inl (nf v))), (a 14, .inl (aI g, 32, .inl (nf c)))]) 0 0) : ∀ (k : Nat) (m : Nat), m ≤ 8 → 8 + 1 ≤ m + k → j_V g κ (0) (0) 47 [(0, .ref o), (1, .int (-1 : Int32)), (2, .int (nI k1)), (3, .long (lN (be v (384 + 8 * k1) m))), (5, .int (nI (8 * k1 + m)))] [] ([(o, .inr (6, mo a sz (nI n) (if blk = true then (1 : Int32) else 0) (nI cnt) pl q wr z db)), (a 1, .inl (aI g, 2000, .inl (nf t))), (a 12, .inl (aI g, 416, .inl (nf v))), (a 14, .inl (aI g, 32, .inl (nf c)))]) := by
  intro k
  induction k with
  | zero =>
    intro m hm hk
    exfalso; omega
  | succ k ih =>
    intro m hm hk
    refine j_iload (pc := 47) C d_Mod_name_47 4 rfl ?_
    refine j_bipush (pc := 49) (v := nI 8) C d_Mod_name_49 (by decide) ?_
    refine j_iload_n (pc := 51) C d_Mod_name_51 rfl 2 rfl ?_
    refine j_imulN (pc := 52) C d_Mod_name_52 ?_
    refine j_bipush (pc := 53) (v := nI 8) C d_Mod_name_53 (by decide) ?_
    refine j_iaddN (pc := 55) C d_Mod_name_55 ?_
    refine j_icmp_geN (pc := 56) (tgt := 129) C (by omega) (by omega) d_Mod_name_56 rfl (fun c56 => ?_) (fun c56 => ?_)
    · skip
      refine j_lload_n (pc := 129) C d_Mod_name_129 rfl 3 rfl ?_
      exact hR.2.1 _ _ _ _ d_Mod_name_130 rfl (⟨by rw [show m = 8 by omega], rfl⟩)
    · skip
      refine j_lload_n (pc := 59) C d_Mod_name_59 rfl 3 rfl ?_
      refine j_bipush (pc := 60) (v := nI 8) C d_Mod_name_60 (by decide) ?_
      refine j_lshl (pc := 62) (v := (lN (be v (384 + 8 * k1) m)) <<< ((nI 8).toInt64 &&& 63)) C d_Mod_name_62 rfl ?_
      refine j_iload_n (pc := 63) C d_Mod_name_63 rfl 1 rfl ?_
      refine j_bipush (pc := 64) (v := (-2 : Int32)) C d_Mod_name_64 (by decide) ?_
      refine j_icmp_ne (pc := 66) (tgt := 82) C d_Mod_name_66 rfl (fun c66 => ?_) (fun c66 => ?_)
      · skip
        refine j_iload_n (pc := 82) C d_Mod_name_82 rfl 1 rfl ?_
        refine j_bipush (pc := 83) (v := (-3 : Int32)) C d_Mod_name_83 (by decide) ?_
        refine j_icmp_ne (pc := 85) (tgt := 98) C d_Mod_name_85 rfl (fun c85 => ?_) (fun c85 => ?_)
        · skip
          refine j_aload_n (pc := 98) C d_Mod_name_98 rfl 0 rfl ?_
          refine j_get (pc := 99) C F_Mod_50 0 rfl rfl d_Mod_name_99 ?_
          refine j_bipush (pc := 102) (v := nI 32) C d_Mod_name_102 (by decide) ?_
          refine j_iload_n (pc := 104) C d_Mod_name_104 rfl 1 rfl ?_
          refine j_iconst (pc := 105) (v := (-1 : Int32)) C d_Mod_name_105 (by decide) ?_
          refine j_icmp_ne (pc := 106) (tgt := 114) C d_Mod_name_106 rfl (fun c106 => ?_) (fun c106 => ?_)
          · exfalso; revert c106; decide
          · skip
            refine j_bipush (pc := 109) (v := nI 12) C d_Mod_name_109 (by decide) ?_
            refine j_goto (pc := 111) (tgt := 115) C d_Mod_name_111 rfl ?_
            refine j_imulN (pc := 115) C d_Mod_name_115 ?_
            refine j_iload (pc := 116) C d_Mod_name_116 4 rfl ?_
            refine j_iaddN (pc := 118) C d_Mod_name_118 ?_
            refine j_ialdN (pc := 119) C 2 1 rfl rfl (by omega) (by omega) d_Mod_name_119 ?_
            refine j_i2l (pc := 120) (v := lN (v ((32 * 12) + (8 * k1 + m)))) C d_Mod_name_120 (nI_l (by have h9 := hv ((32 * 12) + (8 * k1 + m)); omega)) ?_
            refine j_lor (pc := 121) C d_Mod_name_121 ?_
            refine j_rwl (y := lN (be v (384 + 8 * k1) (m + 1))) (be_push2 hv (by omega) (by omega)) ?_
            refine j_lstore_n (pc := 122) (lv' := [(3, .long (lN (be v (384 + 8 * k1) (m + 1)))), (0, .ref o), (1, .int (-1 : Int32)), (2, .int (nI k1)), (5, .int (nI (8 * k1 + m)))]) C d_Mod_name_122 rfl (by decide) rfl ?_
            refine j_iinc (pc := 123) (k := 4) (v := nI (8 * k1 + m + 1)) (lv' := [(5, .int (nI (8 * k1 + m + 1))), (3, .long (lN (be v (384 + 8 * k1) (m + 1)))), (0, .ref o), (1, .int (-1 : Int32)), (2, .int (nI k1))]) C d_Mod_name_123 rfl (j_inc _ _) (by decide) rfl ?_
            refine j_goto (pc := 126) (tgt := 47) C d_Mod_name_126 rfl ?_
            refine j_lv (lv' := [(0, .ref o), (1, .int (-1 : Int32)), (2, .int (nI k1)), (3, .long (lN (be v (384 + 8 * k1) (m + 1)))), (5, .int (nI (8 * k1 + m + 1)))]) [2, 3, 4, 1, 0] rfl ?_
            exact ih (m + 1) (by omega) (by omega)
        · exfalso; revert c85; decide
      · exfalso; revert c66; decide
set_option maxHeartbeats 4000000 in
set_option maxRecDepth 100000 in
theorem lp_nm_m2 {g : JX} {κ : JK} {o n cnt u k1 : Nat} {a : Nat → Nat} {t v c : Nat → Nat} {blk : Bool} {sz pl db q wr z : Int32} (hn : n ≤ 2000) (hT : ∀ j, t j < 256) (hv : ∀ j, v j < 256) (hcc : ∀ j, c j < 256) (hc : cnt ≤ 12) (hu : u < 12) (hk1 : k1 < 4) (C : j_C g κ b_Mod_name R_Mod rm_Mod_name 6) (hR : j_R g κ b_Mod_name (some .long) (fun r w => r = some (.long (lN (be t (36 + 8 * k1) 8))) ∧ w = [(o, .inr (6, mo a sz (nI n) (if blk = true then (1 : Int32) else 0) (nI cnt) pl q wr z db)), (a 1, .inl (aI g, 2000, .inl (nf t))), (a 12, .inl (aI g, 416, .inl (nf v))), (a 14, .inl (aI g, 32, .inl (nf c)))]) 0 0) : ∀ (k : Nat) (m : Nat), m ≤ 8 → 8 + 1 ≤ m + k → j_V g κ (0) (0) 47 [(0, .ref o), (1, .int (-2 : Int32)), (2, .int (nI k1)), (3, .long (lN (be t (36 + 8 * k1) m))), (5, .int (nI (8 * k1 + m)))] [] ([(o, .inr (6, mo a sz (nI n) (if blk = true then (1 : Int32) else 0) (nI cnt) pl q wr z db)), (a 1, .inl (aI g, 2000, .inl (nf t))), (a 12, .inl (aI g, 416, .inl (nf v))), (a 14, .inl (aI g, 32, .inl (nf c)))]) := by
  intro k
  induction k with
  | zero =>
    intro m hm hk
    exfalso; omega
  | succ k ih =>
    intro m hm hk
    refine j_iload (pc := 47) C d_Mod_name_47 4 rfl ?_
    refine j_bipush (pc := 49) (v := nI 8) C d_Mod_name_49 (by decide) ?_
    refine j_iload_n (pc := 51) C d_Mod_name_51 rfl 2 rfl ?_
    refine j_imulN (pc := 52) C d_Mod_name_52 ?_
    refine j_bipush (pc := 53) (v := nI 8) C d_Mod_name_53 (by decide) ?_
    refine j_iaddN (pc := 55) C d_Mod_name_55 ?_
    refine j_icmp_geN (pc := 56) (tgt := 129) C (by omega) (by omega) d_Mod_name_56 rfl (fun c56 => ?_) (fun c56 => ?_)
    · skip
      refine j_lload_n (pc := 129) C d_Mod_name_129 rfl 3 rfl ?_
      exact hR.2.1 _ _ _ _ d_Mod_name_130 rfl (⟨by rw [show m = 8 by omega], rfl⟩)
    · skip
      refine j_lload_n (pc := 59) C d_Mod_name_59 rfl 3 rfl ?_
      refine j_bipush (pc := 60) (v := nI 8) C d_Mod_name_60 (by decide) ?_
      refine j_lshl (pc := 62) (v := (lN (be t (36 + 8 * k1) m)) <<< ((nI 8).toInt64 &&& 63)) C d_Mod_name_62 rfl ?_
      refine j_iload_n (pc := 63) C d_Mod_name_63 rfl 1 rfl ?_
      refine j_bipush (pc := 64) (v := (-2 : Int32)) C d_Mod_name_64 (by decide) ?_
      refine j_icmp_ne (pc := 66) (tgt := 82) C d_Mod_name_66 rfl (fun c66 => ?_) (fun c66 => ?_)
      · exfalso; revert c66; decide
      · skip
        refine j_aload_n (pc := 69) C d_Mod_name_69 rfl 0 rfl ?_
        refine j_get (pc := 70) C F_Mod_13 0 rfl rfl d_Mod_name_70 ?_
        refine j_bipush (pc := 73) (v := nI 36) C d_Mod_name_73 (by decide) ?_
        refine j_iload (pc := 75) C d_Mod_name_75 4 rfl ?_
        refine j_iaddN (pc := 77) C d_Mod_name_77 ?_
        refine j_ialdN (pc := 78) C 1 1 rfl rfl (by omega) (by omega) d_Mod_name_78 ?_
        refine j_goto (pc := 79) (tgt := 120) C d_Mod_name_79 rfl ?_
        refine j_i2l (pc := 120) (v := lN (t (36 + (8 * k1 + m)))) C d_Mod_name_120 (nI_l (by have h9 := hT (36 + (8 * k1 + m)); omega)) ?_
        refine j_lor (pc := 121) C d_Mod_name_121 ?_
        refine j_rwl (y := lN (be t (36 + 8 * k1) (m + 1))) (be_push2 hT (by omega) (by omega)) ?_
        refine j_lstore_n (pc := 122) (lv' := [(3, .long (lN (be t (36 + 8 * k1) (m + 1)))), (0, .ref o), (1, .int (-2 : Int32)), (2, .int (nI k1)), (5, .int (nI (8 * k1 + m)))]) C d_Mod_name_122 rfl (by decide) rfl ?_
        refine j_iinc (pc := 123) (k := 4) (v := nI (8 * k1 + m + 1)) (lv' := [(5, .int (nI (8 * k1 + m + 1))), (3, .long (lN (be t (36 + 8 * k1) (m + 1)))), (0, .ref o), (1, .int (-2 : Int32)), (2, .int (nI k1))]) C d_Mod_name_123 rfl (j_inc _ _) (by decide) rfl ?_
        refine j_goto (pc := 126) (tgt := 47) C d_Mod_name_126 rfl ?_
        refine j_lv (lv' := [(0, .ref o), (1, .int (-2 : Int32)), (2, .int (nI k1)), (3, .long (lN (be t (36 + 8 * k1) (m + 1)))), (5, .int (nI (8 * k1 + m + 1)))]) [2, 3, 4, 1, 0] rfl ?_
        exact ih (m + 1) (by omega) (by omega)
set_option maxHeartbeats 4000000 in
set_option maxRecDepth 100000 in
theorem lp_nm_m3 {g : JX} {κ : JK} {o n cnt u k1 : Nat} {a : Nat → Nat} {t v c : Nat → Nat} {blk : Bool} {sz pl db q wr z : Int32} (hn : n ≤ 2000) (hT : ∀ j, t j < 256) (hv : ∀ j, v j < 256) (hcc : ∀ j, c j < 256) (hc : cnt ≤ 12) (hu : u < 12) (hk1 : k1 < 4) (C : j_C g κ b_Mod_name R_Mod rm_Mod_name 6) (hR : j_R g κ b_Mod_name (some .long) (fun r w => r = some (.long (lN (be c (8 * k1) 8))) ∧ w = [(o, .inr (6, mo a sz (nI n) (if blk = true then (1 : Int32) else 0) (nI cnt) pl q wr z db)), (a 1, .inl (aI g, 2000, .inl (nf t))), (a 12, .inl (aI g, 416, .inl (nf v))), (a 14, .inl (aI g, 32, .inl (nf c)))]) 0 0) : ∀ (k : Nat) (m : Nat), m ≤ 8 → 8 + 1 ≤ m + k → j_V g κ (0) (0) 47 [(0, .ref o), (1, .int (-3 : Int32)), (2, .int (nI k1)), (3, .long (lN (be c (8 * k1) m))), (5, .int (nI (8 * k1 + m)))] [] ([(o, .inr (6, mo a sz (nI n) (if blk = true then (1 : Int32) else 0) (nI cnt) pl q wr z db)), (a 1, .inl (aI g, 2000, .inl (nf t))), (a 12, .inl (aI g, 416, .inl (nf v))), (a 14, .inl (aI g, 32, .inl (nf c)))]) := by
  intro k
  induction k with
  | zero =>
    intro m hm hk
    exfalso; omega
  | succ k ih =>
    intro m hm hk
    refine j_iload (pc := 47) C d_Mod_name_47 4 rfl ?_
    refine j_bipush (pc := 49) (v := nI 8) C d_Mod_name_49 (by decide) ?_
    refine j_iload_n (pc := 51) C d_Mod_name_51 rfl 2 rfl ?_
    refine j_imulN (pc := 52) C d_Mod_name_52 ?_
    refine j_bipush (pc := 53) (v := nI 8) C d_Mod_name_53 (by decide) ?_
    refine j_iaddN (pc := 55) C d_Mod_name_55 ?_
    refine j_icmp_geN (pc := 56) (tgt := 129) C (by omega) (by omega) d_Mod_name_56 rfl (fun c56 => ?_) (fun c56 => ?_)
    · skip
      refine j_lload_n (pc := 129) C d_Mod_name_129 rfl 3 rfl ?_
      exact hR.2.1 _ _ _ _ d_Mod_name_130 rfl (⟨by rw [show m = 8 by omega], rfl⟩)
    · skip
      refine j_lload_n (pc := 59) C d_Mod_name_59 rfl 3 rfl ?_
      refine j_bipush (pc := 60) (v := nI 8) C d_Mod_name_60 (by decide) ?_
      refine j_lshl (pc := 62) (v := (lN (be c (8 * k1) m)) <<< ((nI 8).toInt64 &&& 63)) C d_Mod_name_62 rfl ?_
      refine j_iload_n (pc := 63) C d_Mod_name_63 rfl 1 rfl ?_
      refine j_bipush (pc := 64) (v := (-2 : Int32)) C d_Mod_name_64 (by decide) ?_
      refine j_icmp_ne (pc := 66) (tgt := 82) C d_Mod_name_66 rfl (fun c66 => ?_) (fun c66 => ?_)
      · skip
        refine j_iload_n (pc := 82) C d_Mod_name_82 rfl 1 rfl ?_
        refine j_bipush (pc := 83) (v := (-3 : Int32)) C d_Mod_name_83 (by decide) ?_
        refine j_icmp_ne (pc := 85) (tgt := 98) C d_Mod_name_85 rfl (fun c85 => ?_) (fun c85 => ?_)
        · exfalso; revert c85; decide
        · skip
          refine j_aload_n (pc := 88) C d_Mod_name_88 rfl 0 rfl ?_
          refine j_get (pc := 89) C F_Mod_56 0 rfl rfl d_Mod_name_89 ?_
          refine j_iload (pc := 92) C d_Mod_name_92 4 rfl ?_
          refine j_ialdN (pc := 94) C 3 1 rfl rfl (by omega) (by omega) d_Mod_name_94 ?_
          refine j_goto (pc := 95) (tgt := 120) C d_Mod_name_95 rfl ?_
          refine j_i2l (pc := 120) (v := lN (c (8 * k1 + m))) C d_Mod_name_120 (nI_l (by have h9 := hcc (8 * k1 + m); omega)) ?_
          refine j_lor (pc := 121) C d_Mod_name_121 ?_
          refine j_rwl (y := lN (be c (8 * k1) (m + 1))) (be_push2 hcc (by omega) (by omega)) ?_
          refine j_lstore_n (pc := 122) (lv' := [(3, .long (lN (be c (8 * k1) (m + 1)))), (0, .ref o), (1, .int (-3 : Int32)), (2, .int (nI k1)), (5, .int (nI (8 * k1 + m)))]) C d_Mod_name_122 rfl (by decide) rfl ?_
          refine j_iinc (pc := 123) (k := 4) (v := nI (8 * k1 + m + 1)) (lv' := [(5, .int (nI (8 * k1 + m + 1))), (3, .long (lN (be c (8 * k1) (m + 1)))), (0, .ref o), (1, .int (-3 : Int32)), (2, .int (nI k1))]) C d_Mod_name_123 rfl (j_inc _ _) (by decide) rfl ?_
          refine j_goto (pc := 126) (tgt := 47) C d_Mod_name_126 rfl ?_
          refine j_lv (lv' := [(0, .ref o), (1, .int (-3 : Int32)), (2, .int (nI k1)), (3, .long (lN (be c (8 * k1) (m + 1)))), (5, .int (nI (8 * k1 + m + 1)))]) [2, 3, 4, 1, 0] rfl ?_
          exact ih (m + 1) (by omega) (by omega)
      · exfalso; revert c66; decide
theorem nI_big3 {n : Nat} {x z : Int32} (h : nI n ≤ x) (hn : n < 2 ^ 31) (hz : z.toInt < 0) (e : x = z) : False := by
  subst e; rw [Int32.le_iff_toInt_le, nI_toInt hn] at h; omega
set_option maxHeartbeats 4000000 in
set_option maxRecDepth 100000 in
theorem c_Mod_name (l : Launch) (g : JX) (o : Nat) (a : Nat → Nat) (n cnt : Nat) (blk : Bool) (t v c : Nat → Nat) (A : Nat → Nat → Nat) (B R : Nat → Nat) (tt x : Int32) (sz pl db q wr z : Int32) (hn : n ≤ 2000) (hT : ∀ j, t j < 256) (hv : ∀ j, v j < 256) (hcc : ∀ j, c j < 256) (hc : cnt ≤ 12) (hA : ∀ u, u < cnt → ∀ j, j < 32 → v (32 * u + j) = A u j) (hB : blk = true → ∀ j, j < 32 → v (384 + j) = B j) (hRo : blk = true → ∀ j, j < 32 → c j = R j) : j_Ct l y_Mod_name b_Mod_name 6 (some .long) rm_Mod_name g ([(o, .inr (6, mo a sz (nI n) (if blk = true then (1 : Int32) else 0) (nI cnt) pl q wr z db)), (a 1, .inl (aI g, 2000, .inl (nf t))), (a 12, .inl (aI g, 416, .inl (nf v))), (a 14, .inl (aI g, 32, .inl (nf c)))]) [.ref o, .int tt, .int x] (fun r w => r = some (.long (nmR blk cnt A B R t tt x)) ∧ w = [(o, .inr (6, mo a sz (nI n) (if blk = true then (1 : Int32) else 0) (nI cnt) pl q wr z db)), (a 1, .inl (aI g, 2000, .inl (nf t))), (a 12, .inl (aI g, 416, .inl (nf v))), (a 14, .inl (aI g, 32, .inl (nf c)))]) 0 0 := by
  refine j_ct (by decide) (Nat.le_of_ble_eq_true rfl) (fun κ hkl C hR hI => ?_)
  show j_V g κ 0 0 0 [(0, .ref o), (1, .int tt), (2, .int x)] [] ([(o, .inr (6, mo a sz (nI n) (if blk = true then (1 : Int32) else 0) (nI cnt) pl q wr z db)), (a 1, .inl (aI g, 2000, .inl (nf t))), (a 12, .inl (aI g, 416, .inl (nf v))), (a 14, .inl (aI g, 32, .inl (nf c)))])
  rcases pk_ix x (n := 4) (by decide) with hk1 | hk1 | ⟨k1, hk1, rfl⟩
  · skip
    show j_V g κ 0 0 0 [(0, .ref o), (1, .int tt), (2, .int x)] [] ([(o, .inr (6, mo a sz (nI n) (if blk = true then (1 : Int32) else 0) (nI cnt) pl q wr z db)), (a 1, .inl (aI g, 2000, .inl (nf t))), (a 12, .inl (aI g, 416, .inl (nf v))), (a 14, .inl (aI g, 32, .inl (nf c)))])
    refine j_iload_n (pc := 0) C d_Mod_name_0 rfl 2 rfl ?_
    refine j_if_lt (pc := 1) (tgt := 37) C d_Mod_name_1 rfl (fun c1 => ?_) (fun c1 => ?_)
    · skip
      refine j_lconst (pc := 37) (v := 0) C d_Mod_name_37 (by decide) ?_
      exact hR.2.1 _ _ _ _ d_Mod_name_38 rfl (⟨by first | (exfalso; omega) | rw [nmR_kneg hk1] | rw [nmR_kbig hk1] | (rw [nmR_k hk1, if_neg (fun q => nlt0 hu q.1)]; first | rw [if_neg c23] | (by_cases hb9 : blk = true <;> (first | rw [if_pos hb9, if_neg (fun q => by subst q; exact absurd hu3 (by decide)), if_neg (fun q => by subst q; exact absurd hu3 (by decide)), if_neg (fun q => by subst q; exact absurd hu3 (by decide))] | rw [if_neg hb9]))) | (rw [nmR_k hk1, if_neg (by rintro ⟨h, _⟩; exact absurd h (by decide)), if_neg c23]) | (rw [nmR_k hk1, if_neg (fun q => nle hu q.2)]; by_cases hb9 : blk = true <;> (first | rw [if_pos hb9, if_neg (fun q => nI_big3 hu (by omega) (by decide) q), if_neg (fun q => nI_big3 hu (by omega) (by decide) q), if_neg (fun q => nI_big3 hu (by omega) (by decide) q)] | rw [if_neg hb9])), rfl⟩)
    · skip
      refine j_iload_n (pc := 4) C d_Mod_name_4 rfl 2 rfl ?_
      refine j_iconst (pc := 5) (v := nI 3) C d_Mod_name_5 (by decide) ?_
      refine j_icmp_gt (pc := 6) (tgt := 37) C d_Mod_name_6 rfl (fun c6 => ?_) (fun c6 => ?_)
      · skip
        refine j_lconst (pc := 37) (v := 0) C d_Mod_name_37 (by decide) ?_
        exact hR.2.1 _ _ _ _ d_Mod_name_38 rfl (⟨by first | (exfalso; omega) | rw [nmR_kneg hk1] | rw [nmR_kbig hk1] | (rw [nmR_k hk1, if_neg (fun q => nlt0 hu q.1)]; first | rw [if_neg c23] | (by_cases hb9 : blk = true <;> (first | rw [if_pos hb9, if_neg (fun q => by subst q; exact absurd hu3 (by decide)), if_neg (fun q => by subst q; exact absurd hu3 (by decide)), if_neg (fun q => by subst q; exact absurd hu3 (by decide))] | rw [if_neg hb9]))) | (rw [nmR_k hk1, if_neg (by rintro ⟨h, _⟩; exact absurd h (by decide)), if_neg c23]) | (rw [nmR_k hk1, if_neg (fun q => nle hu q.2)]; by_cases hb9 : blk = true <;> (first | rw [if_pos hb9, if_neg (fun q => nI_big3 hu (by omega) (by decide) q), if_neg (fun q => nI_big3 hu (by omega) (by decide) q), if_neg (fun q => nI_big3 hu (by omega) (by decide) q)] | rw [if_neg hb9])), rfl⟩)
      · skip
        exfalso
        rw [Int32.lt_iff_toInt_lt, Int32.toInt_zero] at c1
        rw [Int32.lt_iff_toInt_lt, nI_toInt (by decide)] at c6
        first | (rw [Int32.lt_iff_toInt_lt, Int32.toInt_zero] at hk1; omega) | (rw [Int32.le_iff_toInt_le, nI_toInt (by decide)] at hk1; omega)
  · skip
    show j_V g κ 0 0 0 [(0, .ref o), (1, .int tt), (2, .int x)] [] ([(o, .inr (6, mo a sz (nI n) (if blk = true then (1 : Int32) else 0) (nI cnt) pl q wr z db)), (a 1, .inl (aI g, 2000, .inl (nf t))), (a 12, .inl (aI g, 416, .inl (nf v))), (a 14, .inl (aI g, 32, .inl (nf c)))])
    refine j_iload_n (pc := 0) C d_Mod_name_0 rfl 2 rfl ?_
    refine j_if_lt (pc := 1) (tgt := 37) C d_Mod_name_1 rfl (fun c1 => ?_) (fun c1 => ?_)
    · skip
      refine j_lconst (pc := 37) (v := 0) C d_Mod_name_37 (by decide) ?_
      exact hR.2.1 _ _ _ _ d_Mod_name_38 rfl (⟨by first | (exfalso; omega) | rw [nmR_kneg hk1] | rw [nmR_kbig hk1] | (rw [nmR_k hk1, if_neg (fun q => nlt0 hu q.1)]; first | rw [if_neg c23] | (by_cases hb9 : blk = true <;> (first | rw [if_pos hb9, if_neg (fun q => by subst q; exact absurd hu3 (by decide)), if_neg (fun q => by subst q; exact absurd hu3 (by decide)), if_neg (fun q => by subst q; exact absurd hu3 (by decide))] | rw [if_neg hb9]))) | (rw [nmR_k hk1, if_neg (by rintro ⟨h, _⟩; exact absurd h (by decide)), if_neg c23]) | (rw [nmR_k hk1, if_neg (fun q => nle hu q.2)]; by_cases hb9 : blk = true <;> (first | rw [if_pos hb9, if_neg (fun q => nI_big3 hu (by omega) (by decide) q), if_neg (fun q => nI_big3 hu (by omega) (by decide) q), if_neg (fun q => nI_big3 hu (by omega) (by decide) q)] | rw [if_neg hb9])), rfl⟩)
    · skip
      refine j_iload_n (pc := 4) C d_Mod_name_4 rfl 2 rfl ?_
      refine j_iconst (pc := 5) (v := nI 3) C d_Mod_name_5 (by decide) ?_
      refine j_icmp_gt (pc := 6) (tgt := 37) C d_Mod_name_6 rfl (fun c6 => ?_) (fun c6 => ?_)
      · skip
        refine j_lconst (pc := 37) (v := 0) C d_Mod_name_37 (by decide) ?_
        exact hR.2.1 _ _ _ _ d_Mod_name_38 rfl (⟨by first | (exfalso; omega) | rw [nmR_kneg hk1] | rw [nmR_kbig hk1] | (rw [nmR_k hk1, if_neg (fun q => nlt0 hu q.1)]; first | rw [if_neg c23] | (by_cases hb9 : blk = true <;> (first | rw [if_pos hb9, if_neg (fun q => by subst q; exact absurd hu3 (by decide)), if_neg (fun q => by subst q; exact absurd hu3 (by decide)), if_neg (fun q => by subst q; exact absurd hu3 (by decide))] | rw [if_neg hb9]))) | (rw [nmR_k hk1, if_neg (by rintro ⟨h, _⟩; exact absurd h (by decide)), if_neg c23]) | (rw [nmR_k hk1, if_neg (fun q => nle hu q.2)]; by_cases hb9 : blk = true <;> (first | rw [if_pos hb9, if_neg (fun q => nI_big3 hu (by omega) (by decide) q), if_neg (fun q => nI_big3 hu (by omega) (by decide) q), if_neg (fun q => nI_big3 hu (by omega) (by decide) q)] | rw [if_neg hb9])), rfl⟩)
      · skip
        exfalso
        rw [Int32.lt_iff_toInt_lt, Int32.toInt_zero] at c1
        rw [Int32.lt_iff_toInt_lt, nI_toInt (by decide)] at c6
        first | (rw [Int32.lt_iff_toInt_lt, Int32.toInt_zero] at hk1; omega) | (rw [Int32.le_iff_toInt_le, nI_toInt (by decide)] at hk1; omega)
  · skip
    rcases pk_ix tt (n := cnt) (by omega) with hu | hu | ⟨u, hu, rfl⟩
    · skip
      rcases tt_neg hu with rfl | rfl | rfl | hu3
      · skip
        show j_V g κ 0 0 0 [(0, .ref o), (1, .int (-1 : Int32)), (2, .int (nI k1))] [] ([(o, .inr (6, mo a sz (nI n) (if blk = true then (1 : Int32) else 0) (nI cnt) pl q wr z db)), (a 1, .inl (aI g, 2000, .inl (nf t))), (a 12, .inl (aI g, 416, .inl (nf v))), (a 14, .inl (aI g, 32, .inl (nf c)))])
        refine j_iload_n (pc := 0) C d_Mod_name_0 rfl 2 rfl ?_
        refine j_if_ltN (pc := 1) (tgt := 37) C (by omega) d_Mod_name_1 rfl ?_
        refine j_iload_n (pc := 4) C d_Mod_name_4 rfl 2 rfl ?_
        refine j_iconst (pc := 5) (v := nI 3) C d_Mod_name_5 (by decide) ?_
        refine j_icmp_gtN (pc := 6) (tgt := 37) C (by omega) (by omega) d_Mod_name_6 rfl (fun c6 => ?_) (fun c6 => ?_)
        · skip
          refine j_lconst (pc := 37) (v := 0) C d_Mod_name_37 (by decide) ?_
          exact hR.2.1 _ _ _ _ d_Mod_name_38 rfl (⟨by first | (exfalso; omega) | rw [nmR_kneg hk1] | rw [nmR_kbig hk1] | (rw [nmR_k hk1, if_neg (fun q => nlt0 hu q.1)]; first | rw [if_neg c23] | (by_cases hb9 : blk = true <;> (first | rw [if_pos hb9, if_neg (fun q => by subst q; exact absurd hu3 (by decide)), if_neg (fun q => by subst q; exact absurd hu3 (by decide)), if_neg (fun q => by subst q; exact absurd hu3 (by decide))] | rw [if_neg hb9]))) | (rw [nmR_k hk1, if_neg (by rintro ⟨h, _⟩; exact absurd h (by decide)), if_neg c23]) | (rw [nmR_k hk1, if_neg (fun q => nle hu q.2)]; by_cases hb9 : blk = true <;> (first | rw [if_pos hb9, if_neg (fun q => nI_big3 hu (by omega) (by decide) q), if_neg (fun q => nI_big3 hu (by omega) (by decide) q), if_neg (fun q => nI_big3 hu (by omega) (by decide) q)] | rw [if_neg hb9])), rfl⟩)
        · skip
          refine j_iload_n (pc := 9) C d_Mod_name_9 rfl 1 rfl ?_
          refine j_bipush (pc := 10) (v := (-3 : Int32)) C d_Mod_name_10 (by decide) ?_
          refine j_icmp_lt (pc := 12) (tgt := 37) C d_Mod_name_12 rfl (fun c12 => ?_) (fun c12 => ?_)
          · exfalso; revert c12; decide
          · skip
            refine j_iload_n (pc := 15) C d_Mod_name_15 rfl 1 rfl ?_
            refine j_if_ge (pc := 16) (tgt := 29) C d_Mod_name_16 rfl (fun c16 => ?_) (fun c16 => ?_)
            · exfalso; revert c16; decide
            · skip
              refine j_aload_n (pc := 19) C d_Mod_name_19 rfl 0 rfl ?_
              refine j_get (pc := 20) C F_Mod_172 0 rfl rfl d_Mod_name_20 ?_
              refine j_if_neB (pc := 23) (tgt := 39) C d_Mod_name_23 rfl (fun c23 => ?_) (fun c23 => ?_)
              · skip
                refine j_lconst (pc := 39) (v := 0) C d_Mod_name_39 (by decide) ?_
                refine j_lstore_n (pc := 40) (lv' := [(3, .long (0 : Int64)), (0, .ref o), (1, .int (-1 : Int32)), (2, .int (nI k1))]) C d_Mod_name_40 rfl (by decide) rfl ?_
                refine j_bipush (pc := 41) (v := nI 8) C d_Mod_name_41 (by decide) ?_
                refine j_iload_n (pc := 43) C d_Mod_name_43 rfl 3 rfl ?_
                refine j_imulN (pc := 44) C d_Mod_name_44 ?_
                refine j_istore (pc := 45) (lv' := [(5, .int (nI (8 * k1))), (3, .long (0 : Int64)), (0, .ref o), (1, .int (-1 : Int32)), (2, .int (nI k1))]) C d_Mod_name_45 (by decide) rfl ?_
                refine j_lv (lv' := [(0, .ref o), (1, .int (-1 : Int32)), (2, .int (nI k1)), (3, .long (0 : Int64)), (5, .int (nI (8 * k1)))]) [2, 3, 4, 1, 0] rfl ?_
                have e := lp_nm_m1 (o := o) (n := n) (cnt := cnt) (u := 0) (k1 := k1) (a := a) (t := t) (v := v) (c := c) (blk := blk) (sz := sz) (pl := pl) (db := db) (q := q) (wr := wr) (z := z) hn hT hv hcc hc (by omega) hk1 C (j_R_mono hR (fun r w h => ⟨h.1.trans (by rw [nmR_k hk1, if_neg (by rintro ⟨h, _⟩; exact absurd h (by decide)), if_pos c23, if_pos rfl, be_cg (v := v) (u := B) (p := 384 + 8 * k1) (q := 8 * k1) 8 (fun j hj => by rw [show 384 + 8 * k1 + j = 384 + (8 * k1 + j) by omega]; exact hB c23 (8 * k1 + j) (by omega))]), h.2⟩)) 9 0 (by omega) (by omega)
                exact e
              · skip
                refine j_goto (pc := 26) (tgt := 37) C d_Mod_name_26 rfl ?_
                refine j_lconst (pc := 37) (v := 0) C d_Mod_name_37 (by decide) ?_
                exact hR.2.1 _ _ _ _ d_Mod_name_38 rfl (⟨by first | (exfalso; omega) | rw [nmR_kneg hk1] | rw [nmR_kbig hk1] | (rw [nmR_k hk1, if_neg (fun q => nlt0 hu q.1)]; first | rw [if_neg c23] | (by_cases hb9 : blk = true <;> (first | rw [if_pos hb9, if_neg (fun q => by subst q; exact absurd hu3 (by decide)), if_neg (fun q => by subst q; exact absurd hu3 (by decide)), if_neg (fun q => by subst q; exact absurd hu3 (by decide))] | rw [if_neg hb9]))) | (rw [nmR_k hk1, if_neg (by rintro ⟨h, _⟩; exact absurd h (by decide)), if_neg c23]) | (rw [nmR_k hk1, if_neg (fun q => nle hu q.2)]; by_cases hb9 : blk = true <;> (first | rw [if_pos hb9, if_neg (fun q => nI_big3 hu (by omega) (by decide) q), if_neg (fun q => nI_big3 hu (by omega) (by decide) q), if_neg (fun q => nI_big3 hu (by omega) (by decide) q)] | rw [if_neg hb9])), rfl⟩)
      · skip
        show j_V g κ 0 0 0 [(0, .ref o), (1, .int (-2 : Int32)), (2, .int (nI k1))] [] ([(o, .inr (6, mo a sz (nI n) (if blk = true then (1 : Int32) else 0) (nI cnt) pl q wr z db)), (a 1, .inl (aI g, 2000, .inl (nf t))), (a 12, .inl (aI g, 416, .inl (nf v))), (a 14, .inl (aI g, 32, .inl (nf c)))])
        refine j_iload_n (pc := 0) C d_Mod_name_0 rfl 2 rfl ?_
        refine j_if_ltN (pc := 1) (tgt := 37) C (by omega) d_Mod_name_1 rfl ?_
        refine j_iload_n (pc := 4) C d_Mod_name_4 rfl 2 rfl ?_
        refine j_iconst (pc := 5) (v := nI 3) C d_Mod_name_5 (by decide) ?_
        refine j_icmp_gtN (pc := 6) (tgt := 37) C (by omega) (by omega) d_Mod_name_6 rfl (fun c6 => ?_) (fun c6 => ?_)
        · skip
          refine j_lconst (pc := 37) (v := 0) C d_Mod_name_37 (by decide) ?_
          exact hR.2.1 _ _ _ _ d_Mod_name_38 rfl (⟨by first | (exfalso; omega) | rw [nmR_kneg hk1] | rw [nmR_kbig hk1] | (rw [nmR_k hk1, if_neg (fun q => nlt0 hu q.1)]; first | rw [if_neg c23] | (by_cases hb9 : blk = true <;> (first | rw [if_pos hb9, if_neg (fun q => by subst q; exact absurd hu3 (by decide)), if_neg (fun q => by subst q; exact absurd hu3 (by decide)), if_neg (fun q => by subst q; exact absurd hu3 (by decide))] | rw [if_neg hb9]))) | (rw [nmR_k hk1, if_neg (by rintro ⟨h, _⟩; exact absurd h (by decide)), if_neg c23]) | (rw [nmR_k hk1, if_neg (fun q => nle hu q.2)]; by_cases hb9 : blk = true <;> (first | rw [if_pos hb9, if_neg (fun q => nI_big3 hu (by omega) (by decide) q), if_neg (fun q => nI_big3 hu (by omega) (by decide) q), if_neg (fun q => nI_big3 hu (by omega) (by decide) q)] | rw [if_neg hb9])), rfl⟩)
        · skip
          refine j_iload_n (pc := 9) C d_Mod_name_9 rfl 1 rfl ?_
          refine j_bipush (pc := 10) (v := (-3 : Int32)) C d_Mod_name_10 (by decide) ?_
          refine j_icmp_lt (pc := 12) (tgt := 37) C d_Mod_name_12 rfl (fun c12 => ?_) (fun c12 => ?_)
          · exfalso; revert c12; decide
          · skip
            refine j_iload_n (pc := 15) C d_Mod_name_15 rfl 1 rfl ?_
            refine j_if_ge (pc := 16) (tgt := 29) C d_Mod_name_16 rfl (fun c16 => ?_) (fun c16 => ?_)
            · exfalso; revert c16; decide
            · skip
              refine j_aload_n (pc := 19) C d_Mod_name_19 rfl 0 rfl ?_
              refine j_get (pc := 20) C F_Mod_172 0 rfl rfl d_Mod_name_20 ?_
              refine j_if_neB (pc := 23) (tgt := 39) C d_Mod_name_23 rfl (fun c23 => ?_) (fun c23 => ?_)
              · skip
                refine j_lconst (pc := 39) (v := 0) C d_Mod_name_39 (by decide) ?_
                refine j_lstore_n (pc := 40) (lv' := [(3, .long (0 : Int64)), (0, .ref o), (1, .int (-2 : Int32)), (2, .int (nI k1))]) C d_Mod_name_40 rfl (by decide) rfl ?_
                refine j_bipush (pc := 41) (v := nI 8) C d_Mod_name_41 (by decide) ?_
                refine j_iload_n (pc := 43) C d_Mod_name_43 rfl 3 rfl ?_
                refine j_imulN (pc := 44) C d_Mod_name_44 ?_
                refine j_istore (pc := 45) (lv' := [(5, .int (nI (8 * k1))), (3, .long (0 : Int64)), (0, .ref o), (1, .int (-2 : Int32)), (2, .int (nI k1))]) C d_Mod_name_45 (by decide) rfl ?_
                refine j_lv (lv' := [(0, .ref o), (1, .int (-2 : Int32)), (2, .int (nI k1)), (3, .long (0 : Int64)), (5, .int (nI (8 * k1)))]) [2, 3, 4, 1, 0] rfl ?_
                have e := lp_nm_m2 (o := o) (n := n) (cnt := cnt) (u := 0) (k1 := k1) (a := a) (t := t) (v := v) (c := c) (blk := blk) (sz := sz) (pl := pl) (db := db) (q := q) (wr := wr) (z := z) hn hT hv hcc hc (by omega) hk1 C (j_R_mono hR (fun r w h => ⟨h.1.trans (by rw [nmR_k hk1, if_neg (by rintro ⟨h, _⟩; exact absurd h (by decide)), if_pos c23, if_neg (by decide), if_pos rfl]), h.2⟩)) 9 0 (by omega) (by omega)
                exact e
              · skip
                refine j_goto (pc := 26) (tgt := 37) C d_Mod_name_26 rfl ?_
                refine j_lconst (pc := 37) (v := 0) C d_Mod_name_37 (by decide) ?_
                exact hR.2.1 _ _ _ _ d_Mod_name_38 rfl (⟨by first | (exfalso; omega) | rw [nmR_kneg hk1] | rw [nmR_kbig hk1] | (rw [nmR_k hk1, if_neg (fun q => nlt0 hu q.1)]; first | rw [if_neg c23] | (by_cases hb9 : blk = true <;> (first | rw [if_pos hb9, if_neg (fun q => by subst q; exact absurd hu3 (by decide)), if_neg (fun q => by subst q; exact absurd hu3 (by decide)), if_neg (fun q => by subst q; exact absurd hu3 (by decide))] | rw [if_neg hb9]))) | (rw [nmR_k hk1, if_neg (by rintro ⟨h, _⟩; exact absurd h (by decide)), if_neg c23]) | (rw [nmR_k hk1, if_neg (fun q => nle hu q.2)]; by_cases hb9 : blk = true <;> (first | rw [if_pos hb9, if_neg (fun q => nI_big3 hu (by omega) (by decide) q), if_neg (fun q => nI_big3 hu (by omega) (by decide) q), if_neg (fun q => nI_big3 hu (by omega) (by decide) q)] | rw [if_neg hb9])), rfl⟩)
      · skip
        show j_V g κ 0 0 0 [(0, .ref o), (1, .int (-3 : Int32)), (2, .int (nI k1))] [] ([(o, .inr (6, mo a sz (nI n) (if blk = true then (1 : Int32) else 0) (nI cnt) pl q wr z db)), (a 1, .inl (aI g, 2000, .inl (nf t))), (a 12, .inl (aI g, 416, .inl (nf v))), (a 14, .inl (aI g, 32, .inl (nf c)))])
        refine j_iload_n (pc := 0) C d_Mod_name_0 rfl 2 rfl ?_
        refine j_if_ltN (pc := 1) (tgt := 37) C (by omega) d_Mod_name_1 rfl ?_
        refine j_iload_n (pc := 4) C d_Mod_name_4 rfl 2 rfl ?_
        refine j_iconst (pc := 5) (v := nI 3) C d_Mod_name_5 (by decide) ?_
        refine j_icmp_gtN (pc := 6) (tgt := 37) C (by omega) (by omega) d_Mod_name_6 rfl (fun c6 => ?_) (fun c6 => ?_)
        · skip
          refine j_lconst (pc := 37) (v := 0) C d_Mod_name_37 (by decide) ?_
          exact hR.2.1 _ _ _ _ d_Mod_name_38 rfl (⟨by first | (exfalso; omega) | rw [nmR_kneg hk1] | rw [nmR_kbig hk1] | (rw [nmR_k hk1, if_neg (fun q => nlt0 hu q.1)]; first | rw [if_neg c23] | (by_cases hb9 : blk = true <;> (first | rw [if_pos hb9, if_neg (fun q => by subst q; exact absurd hu3 (by decide)), if_neg (fun q => by subst q; exact absurd hu3 (by decide)), if_neg (fun q => by subst q; exact absurd hu3 (by decide))] | rw [if_neg hb9]))) | (rw [nmR_k hk1, if_neg (by rintro ⟨h, _⟩; exact absurd h (by decide)), if_neg c23]) | (rw [nmR_k hk1, if_neg (fun q => nle hu q.2)]; by_cases hb9 : blk = true <;> (first | rw [if_pos hb9, if_neg (fun q => nI_big3 hu (by omega) (by decide) q), if_neg (fun q => nI_big3 hu (by omega) (by decide) q), if_neg (fun q => nI_big3 hu (by omega) (by decide) q)] | rw [if_neg hb9])), rfl⟩)
        · skip
          refine j_iload_n (pc := 9) C d_Mod_name_9 rfl 1 rfl ?_
          refine j_bipush (pc := 10) (v := (-3 : Int32)) C d_Mod_name_10 (by decide) ?_
          refine j_icmp_lt (pc := 12) (tgt := 37) C d_Mod_name_12 rfl (fun c12 => ?_) (fun c12 => ?_)
          · exfalso; revert c12; decide
          · skip
            refine j_iload_n (pc := 15) C d_Mod_name_15 rfl 1 rfl ?_
            refine j_if_ge (pc := 16) (tgt := 29) C d_Mod_name_16 rfl (fun c16 => ?_) (fun c16 => ?_)
            · exfalso; revert c16; decide
            · skip
              refine j_aload_n (pc := 19) C d_Mod_name_19 rfl 0 rfl ?_
              refine j_get (pc := 20) C F_Mod_172 0 rfl rfl d_Mod_name_20 ?_
              refine j_if_neB (pc := 23) (tgt := 39) C d_Mod_name_23 rfl (fun c23 => ?_) (fun c23 => ?_)
              · skip
                refine j_lconst (pc := 39) (v := 0) C d_Mod_name_39 (by decide) ?_
                refine j_lstore_n (pc := 40) (lv' := [(3, .long (0 : Int64)), (0, .ref o), (1, .int (-3 : Int32)), (2, .int (nI k1))]) C d_Mod_name_40 rfl (by decide) rfl ?_
                refine j_bipush (pc := 41) (v := nI 8) C d_Mod_name_41 (by decide) ?_
                refine j_iload_n (pc := 43) C d_Mod_name_43 rfl 3 rfl ?_
                refine j_imulN (pc := 44) C d_Mod_name_44 ?_
                refine j_istore (pc := 45) (lv' := [(5, .int (nI (8 * k1))), (3, .long (0 : Int64)), (0, .ref o), (1, .int (-3 : Int32)), (2, .int (nI k1))]) C d_Mod_name_45 (by decide) rfl ?_
                refine j_lv (lv' := [(0, .ref o), (1, .int (-3 : Int32)), (2, .int (nI k1)), (3, .long (0 : Int64)), (5, .int (nI (8 * k1)))]) [2, 3, 4, 1, 0] rfl ?_
                have e := lp_nm_m3 (o := o) (n := n) (cnt := cnt) (u := 0) (k1 := k1) (a := a) (t := t) (v := v) (c := c) (blk := blk) (sz := sz) (pl := pl) (db := db) (q := q) (wr := wr) (z := z) hn hT hv hcc hc (by omega) hk1 C (j_R_mono hR (fun r w h => ⟨h.1.trans (by rw [nmR_k hk1, if_neg (by rintro ⟨h, _⟩; exact absurd h (by decide)), if_pos c23, if_neg (by decide), if_neg (by decide), if_pos rfl, be_cg (v := c) (u := R) (p := 8 * k1) (q := 8 * k1) 8 (fun j hj => hRo c23 (8 * k1 + j) (by omega))]), h.2⟩)) 9 0 (by omega) (by omega)
                exact e
              · skip
                refine j_goto (pc := 26) (tgt := 37) C d_Mod_name_26 rfl ?_
                refine j_lconst (pc := 37) (v := 0) C d_Mod_name_37 (by decide) ?_
                exact hR.2.1 _ _ _ _ d_Mod_name_38 rfl (⟨by first | (exfalso; omega) | rw [nmR_kneg hk1] | rw [nmR_kbig hk1] | (rw [nmR_k hk1, if_neg (fun q => nlt0 hu q.1)]; first | rw [if_neg c23] | (by_cases hb9 : blk = true <;> (first | rw [if_pos hb9, if_neg (fun q => by subst q; exact absurd hu3 (by decide)), if_neg (fun q => by subst q; exact absurd hu3 (by decide)), if_neg (fun q => by subst q; exact absurd hu3 (by decide))] | rw [if_neg hb9]))) | (rw [nmR_k hk1, if_neg (by rintro ⟨h, _⟩; exact absurd h (by decide)), if_neg c23]) | (rw [nmR_k hk1, if_neg (fun q => nle hu q.2)]; by_cases hb9 : blk = true <;> (first | rw [if_pos hb9, if_neg (fun q => nI_big3 hu (by omega) (by decide) q), if_neg (fun q => nI_big3 hu (by omega) (by decide) q), if_neg (fun q => nI_big3 hu (by omega) (by decide) q)] | rw [if_neg hb9])), rfl⟩)
      · skip
        show j_V g κ 0 0 0 [(0, .ref o), (1, .int tt), (2, .int (nI k1))] [] ([(o, .inr (6, mo a sz (nI n) (if blk = true then (1 : Int32) else 0) (nI cnt) pl q wr z db)), (a 1, .inl (aI g, 2000, .inl (nf t))), (a 12, .inl (aI g, 416, .inl (nf v))), (a 14, .inl (aI g, 32, .inl (nf c)))])
        refine j_iload_n (pc := 0) C d_Mod_name_0 rfl 2 rfl ?_
        refine j_if_ltN (pc := 1) (tgt := 37) C (by omega) d_Mod_name_1 rfl ?_
        refine j_iload_n (pc := 4) C d_Mod_name_4 rfl 2 rfl ?_
        refine j_iconst (pc := 5) (v := nI 3) C d_Mod_name_5 (by decide) ?_
        refine j_icmp_gtN (pc := 6) (tgt := 37) C (by omega) (by omega) d_Mod_name_6 rfl (fun c6 => ?_) (fun c6 => ?_)
        · skip
          refine j_lconst (pc := 37) (v := 0) C d_Mod_name_37 (by decide) ?_
          exact hR.2.1 _ _ _ _ d_Mod_name_38 rfl (⟨by first | (exfalso; omega) | rw [nmR_kneg hk1] | rw [nmR_kbig hk1] | (rw [nmR_k hk1, if_neg (fun q => nlt0 hu q.1)]; first | rw [if_neg c23] | (by_cases hb9 : blk = true <;> (first | rw [if_pos hb9, if_neg (fun q => by subst q; exact absurd hu3 (by decide)), if_neg (fun q => by subst q; exact absurd hu3 (by decide)), if_neg (fun q => by subst q; exact absurd hu3 (by decide))] | rw [if_neg hb9]))) | (rw [nmR_k hk1, if_neg (by rintro ⟨h, _⟩; exact absurd h (by decide)), if_neg c23]) | (rw [nmR_k hk1, if_neg (fun q => nle hu q.2)]; by_cases hb9 : blk = true <;> (first | rw [if_pos hb9, if_neg (fun q => nI_big3 hu (by omega) (by decide) q), if_neg (fun q => nI_big3 hu (by omega) (by decide) q), if_neg (fun q => nI_big3 hu (by omega) (by decide) q)] | rw [if_neg hb9])), rfl⟩)
        · skip
          refine j_iload_n (pc := 9) C d_Mod_name_9 rfl 1 rfl ?_
          refine j_bipush (pc := 10) (v := (-3 : Int32)) C d_Mod_name_10 (by decide) ?_
          refine j_icmp_lt (pc := 12) (tgt := 37) C d_Mod_name_12 rfl (fun c12 => ?_) (fun c12 => ?_)
          · skip
            refine j_lconst (pc := 37) (v := 0) C d_Mod_name_37 (by decide) ?_
            exact hR.2.1 _ _ _ _ d_Mod_name_38 rfl (⟨by first | (exfalso; omega) | rw [nmR_kneg hk1] | rw [nmR_kbig hk1] | (rw [nmR_k hk1, if_neg (fun q => nlt0 hu q.1)]; first | rw [if_neg c23] | (by_cases hb9 : blk = true <;> (first | rw [if_pos hb9, if_neg (fun q => by subst q; exact absurd hu3 (by decide)), if_neg (fun q => by subst q; exact absurd hu3 (by decide)), if_neg (fun q => by subst q; exact absurd hu3 (by decide))] | rw [if_neg hb9]))) | (rw [nmR_k hk1, if_neg (by rintro ⟨h, _⟩; exact absurd h (by decide)), if_neg c23]) | (rw [nmR_k hk1, if_neg (fun q => nle hu q.2)]; by_cases hb9 : blk = true <;> (first | rw [if_pos hb9, if_neg (fun q => nI_big3 hu (by omega) (by decide) q), if_neg (fun q => nI_big3 hu (by omega) (by decide) q), if_neg (fun q => nI_big3 hu (by omega) (by decide) q)] | rw [if_neg hb9])), rfl⟩)
          · skip
            exact absurd hu3 c12
    · skip
      show j_V g κ 0 0 0 [(0, .ref o), (1, .int tt), (2, .int (nI k1))] [] ([(o, .inr (6, mo a sz (nI n) (if blk = true then (1 : Int32) else 0) (nI cnt) pl q wr z db)), (a 1, .inl (aI g, 2000, .inl (nf t))), (a 12, .inl (aI g, 416, .inl (nf v))), (a 14, .inl (aI g, 32, .inl (nf c)))])
      refine j_iload_n (pc := 0) C d_Mod_name_0 rfl 2 rfl ?_
      refine j_if_ltN (pc := 1) (tgt := 37) C (by omega) d_Mod_name_1 rfl ?_
      refine j_iload_n (pc := 4) C d_Mod_name_4 rfl 2 rfl ?_
      refine j_iconst (pc := 5) (v := nI 3) C d_Mod_name_5 (by decide) ?_
      refine j_icmp_gtN (pc := 6) (tgt := 37) C (by omega) (by omega) d_Mod_name_6 rfl (fun c6 => ?_) (fun c6 => ?_)
      · skip
        refine j_lconst (pc := 37) (v := 0) C d_Mod_name_37 (by decide) ?_
        exact hR.2.1 _ _ _ _ d_Mod_name_38 rfl (⟨by first | (exfalso; omega) | rw [nmR_kneg hk1] | rw [nmR_kbig hk1] | (rw [nmR_k hk1, if_neg (fun q => nlt0 hu q.1)]; first | rw [if_neg c23] | (by_cases hb9 : blk = true <;> (first | rw [if_pos hb9, if_neg (fun q => by subst q; exact absurd hu3 (by decide)), if_neg (fun q => by subst q; exact absurd hu3 (by decide)), if_neg (fun q => by subst q; exact absurd hu3 (by decide))] | rw [if_neg hb9]))) | (rw [nmR_k hk1, if_neg (by rintro ⟨h, _⟩; exact absurd h (by decide)), if_neg c23]) | (rw [nmR_k hk1, if_neg (fun q => nle hu q.2)]; by_cases hb9 : blk = true <;> (first | rw [if_pos hb9, if_neg (fun q => nI_big3 hu (by omega) (by decide) q), if_neg (fun q => nI_big3 hu (by omega) (by decide) q), if_neg (fun q => nI_big3 hu (by omega) (by decide) q)] | rw [if_neg hb9])), rfl⟩)
      · skip
        refine j_iload_n (pc := 9) C d_Mod_name_9 rfl 1 rfl ?_
        refine j_bipush (pc := 10) (v := (-3 : Int32)) C d_Mod_name_10 (by decide) ?_
        refine j_icmp_lt (pc := 12) (tgt := 37) C d_Mod_name_12 rfl (fun c12 => ?_) (fun c12 => ?_)
        · skip
          exact absurd c12 (fun q => by rw [Int32.lt_iff_toInt_lt] at q; rw [Int32.le_iff_toInt_le, nI_toInt (by omega)] at hu; have : (-3 : Int32).toInt = -3 := (by decide); omega)
        · skip
          refine j_iload_n (pc := 15) C d_Mod_name_15 rfl 1 rfl ?_
          refine j_if_ge (pc := 16) (tgt := 29) C d_Mod_name_16 rfl (fun c16 => ?_) (fun c16 => ?_)
          · skip
            refine j_iload_n (pc := 29) C d_Mod_name_29 rfl 1 rfl ?_
            refine j_aload_n (pc := 30) C d_Mod_name_30 rfl 0 rfl ?_
            refine j_get (pc := 31) C F_Mod_130 0 rfl rfl d_Mod_name_31 ?_
            refine j_icmp_lt (pc := 34) (tgt := 39) C d_Mod_name_34 rfl (fun c34 => ?_) (fun c34 => ?_)
            · skip
              exact absurd c34 (nle hu)
            · skip
              refine j_lconst (pc := 37) (v := 0) C d_Mod_name_37 (by decide) ?_
              exact hR.2.1 _ _ _ _ d_Mod_name_38 rfl (⟨by first | (exfalso; omega) | rw [nmR_kneg hk1] | rw [nmR_kbig hk1] | (rw [nmR_k hk1, if_neg (fun q => nlt0 hu q.1)]; first | rw [if_neg c23] | (by_cases hb9 : blk = true <;> (first | rw [if_pos hb9, if_neg (fun q => by subst q; exact absurd hu3 (by decide)), if_neg (fun q => by subst q; exact absurd hu3 (by decide)), if_neg (fun q => by subst q; exact absurd hu3 (by decide))] | rw [if_neg hb9]))) | (rw [nmR_k hk1, if_neg (by rintro ⟨h, _⟩; exact absurd h (by decide)), if_neg c23]) | (rw [nmR_k hk1, if_neg (fun q => nle hu q.2)]; by_cases hb9 : blk = true <;> (first | rw [if_pos hb9, if_neg (fun q => nI_big3 hu (by omega) (by decide) q), if_neg (fun q => nI_big3 hu (by omega) (by decide) q), if_neg (fun q => nI_big3 hu (by omega) (by decide) q)] | rw [if_neg hb9])), rfl⟩)
          · skip
            exact absurd (by rw [Int32.le_iff_toInt_le]; rw [Int32.le_iff_toInt_le, nI_toInt (by omega)] at hu; rw [Int32.toInt_zero]; omega) c16
    · skip
      show j_V g κ 0 0 0 [(0, .ref o), (1, .int (nI u)), (2, .int (nI k1))] [] ([(o, .inr (6, mo a sz (nI n) (if blk = true then (1 : Int32) else 0) (nI cnt) pl q wr z db)), (a 1, .inl (aI g, 2000, .inl (nf t))), (a 12, .inl (aI g, 416, .inl (nf v))), (a 14, .inl (aI g, 32, .inl (nf c)))])
      refine j_iload_n (pc := 0) C d_Mod_name_0 rfl 2 rfl ?_
      refine j_if_ltN (pc := 1) (tgt := 37) C (by omega) d_Mod_name_1 rfl ?_
      refine j_iload_n (pc := 4) C d_Mod_name_4 rfl 2 rfl ?_
      refine j_iconst (pc := 5) (v := nI 3) C d_Mod_name_5 (by decide) ?_
      refine j_icmp_gtN (pc := 6) (tgt := 37) C (by omega) (by omega) d_Mod_name_6 rfl (fun c6 => ?_) (fun c6 => ?_)
      · skip
        refine j_lconst (pc := 37) (v := 0) C d_Mod_name_37 (by decide) ?_
        exact hR.2.1 _ _ _ _ d_Mod_name_38 rfl (⟨by first | (exfalso; omega) | rw [nmR_kneg hk1] | rw [nmR_kbig hk1] | (rw [nmR_k hk1, if_neg (fun q => nlt0 hu q.1)]; first | rw [if_neg c23] | (by_cases hb9 : blk = true <;> (first | rw [if_pos hb9, if_neg (fun q => by subst q; exact absurd hu3 (by decide)), if_neg (fun q => by subst q; exact absurd hu3 (by decide)), if_neg (fun q => by subst q; exact absurd hu3 (by decide))] | rw [if_neg hb9]))) | (rw [nmR_k hk1, if_neg (by rintro ⟨h, _⟩; exact absurd h (by decide)), if_neg c23]) | (rw [nmR_k hk1, if_neg (fun q => nle hu q.2)]; by_cases hb9 : blk = true <;> (first | rw [if_pos hb9, if_neg (fun q => nI_big3 hu (by omega) (by decide) q), if_neg (fun q => nI_big3 hu (by omega) (by decide) q), if_neg (fun q => nI_big3 hu (by omega) (by decide) q)] | rw [if_neg hb9])), rfl⟩)
      · skip
        refine j_iload_n (pc := 9) C d_Mod_name_9 rfl 1 rfl ?_
        refine j_bipush (pc := 10) (v := (-3 : Int32)) C d_Mod_name_10 (by decide) ?_
        refine j_icmp_lt (pc := 12) (tgt := 37) C d_Mod_name_12 rfl (fun c12 => ?_) (fun c12 => ?_)
        · skip
          exact absurd c12 (nI_nn (by omega) (by decide))
        · skip
          refine j_iload_n (pc := 15) C d_Mod_name_15 rfl 1 rfl ?_
          refine j_if_geN (pc := 16) (tgt := 29) C (by omega) d_Mod_name_16 rfl ?_
          refine j_iload_n (pc := 29) C d_Mod_name_29 rfl 1 rfl ?_
          refine j_aload_n (pc := 30) C d_Mod_name_30 rfl 0 rfl ?_
          refine j_get (pc := 31) C F_Mod_130 0 rfl rfl d_Mod_name_31 ?_
          refine j_icmp_ltN (pc := 34) (tgt := 39) C (by omega) (by omega) d_Mod_name_34 rfl (fun c34 => ?_) (fun c34 => ?_)
          · skip
            refine j_lconst (pc := 39) (v := 0) C d_Mod_name_39 (by decide) ?_
            refine j_lstore_n (pc := 40) (lv' := [(3, .long (0 : Int64)), (0, .ref o), (1, .int (nI u)), (2, .int (nI k1))]) C d_Mod_name_40 rfl (by decide) rfl ?_
            refine j_bipush (pc := 41) (v := nI 8) C d_Mod_name_41 (by decide) ?_
            refine j_iload_n (pc := 43) C d_Mod_name_43 rfl 3 rfl ?_
            refine j_imulN (pc := 44) C d_Mod_name_44 ?_
            refine j_istore (pc := 45) (lv' := [(5, .int (nI (8 * k1))), (3, .long (0 : Int64)), (0, .ref o), (1, .int (nI u)), (2, .int (nI k1))]) C d_Mod_name_45 (by decide) rfl ?_
            refine j_lv (lv' := [(0, .ref o), (1, .int (nI u)), (2, .int (nI k1)), (3, .long (0 : Int64)), (5, .int (nI (8 * k1)))]) [2, 3, 4, 1, 0] rfl ?_
            have e := lp_nm_u (o := o) (n := n) (cnt := cnt) (u := u) (k1 := k1) (a := a) (t := t) (v := v) (c := c) (blk := blk) (sz := sz) (pl := pl) (db := db) (q := q) (wr := wr) (z := z) hn hT hv hcc hc (by omega) hk1 C (j_R_mono hR (fun r w h => ⟨h.1.trans (by rw [nmR_in hk1 hu (by omega), be_cg (v := v) (u := A u) (p := 32 * u + 8 * k1) (q := 8 * k1) 8 (fun j hj => by rw [show 32 * u + 8 * k1 + j = 32 * u + (8 * k1 + j) by omega]; exact hA u hu (8 * k1 + j) (by omega))]), h.2⟩)) 9 0 (by omega) (by omega)
            exact e
          · skip
            refine j_lconst (pc := 37) (v := 0) C d_Mod_name_37 (by decide) ?_
            exact hR.2.1 _ _ _ _ d_Mod_name_38 rfl (⟨by first | (exfalso; omega) | rw [nmR_kneg hk1] | rw [nmR_kbig hk1] | (rw [nmR_k hk1, if_neg (fun q => nlt0 hu q.1)]; first | rw [if_neg c23] | (by_cases hb9 : blk = true <;> (first | rw [if_pos hb9, if_neg (fun q => by subst q; exact absurd hu3 (by decide)), if_neg (fun q => by subst q; exact absurd hu3 (by decide)), if_neg (fun q => by subst q; exact absurd hu3 (by decide))] | rw [if_neg hb9]))) | (rw [nmR_k hk1, if_neg (by rintro ⟨h, _⟩; exact absurd h (by decide)), if_neg c23]) | (rw [nmR_k hk1, if_neg (fun q => nle hu q.2)]; by_cases hb9 : blk = true <;> (first | rw [if_pos hb9, if_neg (fun q => nI_big3 hu (by omega) (by decide) q), if_neg (fun q => nI_big3 hu (by omega) (by decide) q), if_neg (fun q => nI_big3 hu (by omega) (by decide) q)] | rw [if_neg hb9])), rfl⟩)
