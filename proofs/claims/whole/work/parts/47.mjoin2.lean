abbrev rm_Mod_join : Room := { frames := 4, cells := 0, slots := 0, locals := 98 }
set_option maxHeartbeats 4000000 in
set_option maxRecDepth 100000 in
theorem lp_j1 {g : JX} {κ : JK} {o cnt : Nat} {a : Nat → Nat} {v rt : Nat → Nat} {sz le ib pl at_ wr wh : Int32} {r Q : Nat → Nat} {D : Nat → Nat} {W H : Nat → BW} {Y : Nat → Nat} (hc : cnt ≤ 12) (K : j_V g κ 0 0 38 [(0, .ref o), (1, .int (nI cnt))] [] ([(o, .inr (6, mo a sz le ib (nI cnt) pl at_ wr wh (nI 0))), (a 12, .inl (aI g, 416, .inl (nf v))), (a 13, .inl (aI g, 384, .inl (nf (cpT v r (32 * cnt))))), (a 14, .inl (aI g, 32, .inl (nf rt))), (a 15, .inl (aI g, 2112, .inl (nf Q))), (a 16, .inl (aI g, 32, .inl (nf D))), (a 17, .inl (aJ g, 64, .inr (.inl (lf64 (bn cK))))), (a 18, .inl (aJ g, 8, .inr (.inl (lf64 (bn cH))))), (a 19, .inl (aJ g, 64, .inr (.inl (lf64 (bn W))))), (a 20, .inl (aJ g, 8, .inr (.inl (lf64 (bn H))))), (a 22, .inl (aJ g, 10, .inr (.inl (lf64 Y))))])) (C : j_C g κ b_Mod_join R_Mod rm_Mod_join 6) : ∀ (k : Nat) (i : Nat), i ≤ 32 * cnt → 32 * cnt + 1 ≤ i + k → j_V g κ (0) (0) 12 [(0, .ref o), (1, .int (nI cnt)), (2, .int (nI i))] [] ([(o, .inr (6, mo a sz le ib (nI cnt) pl at_ wr wh (nI 0))), (a 12, .inl (aI g, 416, .inl (nf v))), (a 13, .inl (aI g, 384, .inl (nf (cpT v r i)))), (a 14, .inl (aI g, 32, .inl (nf rt))), (a 15, .inl (aI g, 2112, .inl (nf Q))), (a 16, .inl (aI g, 32, .inl (nf D))), (a 17, .inl (aJ g, 64, .inr (.inl (lf64 (bn cK))))), (a 18, .inl (aJ g, 8, .inr (.inl (lf64 (bn cH))))), (a 19, .inl (aJ g, 64, .inr (.inl (lf64 (bn W))))), (a 20, .inl (aJ g, 8, .inr (.inl (lf64 (bn H))))), (a 22, .inl (aJ g, 10, .inr (.inl (lf64 Y))))]) := by
  intro k
  induction k with
  | zero =>
    intro i hi hk
    exfalso; omega
  | succ k ih =>
    intro i hi hk
    refine j_iload_n (pc := 12) C d_Mod_join_12 rfl 2 rfl ?_
    refine j_bipush (pc := 13) (v := nI 32) C d_Mod_join_13 (by decide) ?_
    refine j_iload_n (pc := 15) C d_Mod_join_15 rfl 1 rfl ?_
    refine j_imulN (pc := 16) C d_Mod_join_16 ?_
    refine j_icmp_geN (pc := 17) (tgt := 38) C (by omega) (by omega) d_Mod_join_17 rfl (fun c17 => ?_) (fun c17 => ?_)
    · skip
      obtain rfl : i = 32 * cnt := by omega
      exact j_lv [0, 1] rfl K
    · skip
      refine j_aload_n (pc := 20) C d_Mod_join_20 rfl 0 rfl ?_
      refine j_get (pc := 21) C F_Mod_53 0 rfl rfl d_Mod_join_21 ?_
      refine j_iload_n (pc := 24) C d_Mod_join_24 rfl 2 rfl ?_
      refine j_aload_n (pc := 25) C d_Mod_join_25 rfl 0 rfl ?_
      refine j_get (pc := 26) C F_Mod_50 0 rfl rfl d_Mod_join_26 ?_
      refine j_iload_n (pc := 29) C d_Mod_join_29 rfl 2 rfl ?_
      refine j_ialdN (pc := 30) C 1 1 rfl rfl (by omega) (by omega) d_Mod_join_30 ?_
      refine j_iastB (pc := 31) (ws' := [(o, .inr (6, mo a sz le ib (nI cnt) pl at_ wr wh (nI 0))), (a 12, .inl (aI g, 416, .inl (nf v))), (a 13, .inl (aI g, 384, .inl (nf (va_up (cpT v r i) i (v i))))), (a 14, .inl (aI g, 32, .inl (nf rt))), (a 15, .inl (aI g, 2112, .inl (nf Q))), (a 16, .inl (aI g, 32, .inl (nf D))), (a 17, .inl (aJ g, 64, .inr (.inl (lf64 (bn cK))))), (a 18, .inl (aJ g, 8, .inr (.inl (lf64 (bn cH))))), (a 19, .inl (aJ g, 64, .inr (.inl (lf64 (bn W))))), (a 20, .inl (aJ g, 8, .inr (.inl (lf64 (bn H))))), (a 22, .inl (aJ g, 10, .inr (.inl (lf64 Y))))]) C 2 1 rfl rfl (by omega) (by omega) rfl d_Mod_join_31 ?_
      refine j_iinc (pc := 32) (k := 2) (v := nI (i + 1)) (lv' := [(2, .int (nI (i + 1))), (0, .ref o), (1, .int (nI cnt))]) C d_Mod_join_32 rfl (j_inc _ _) (by decide) rfl ?_
      refine j_goto (pc := 35) (tgt := 12) C d_Mod_join_35 rfl ?_
      refine j_lv (lv' := [(0, .ref o), (1, .int (nI cnt)), (2, .int (nI (i + 1)))]) [1, 2, 0] rfl ?_
      rw [cpT_s]
      exact ih (i + 1) (by omega) (by omega)
set_option maxHeartbeats 4000000 in
set_option maxRecDepth 100000 in
theorem lp_j2_1 {g : JX} {κ : JK} {o cnt : Nat} {a : Nat → Nat} {v rt : Nat → Nat} {sz le ib pl at_ wr wh : Int32} {m p : Nat} {c : Nat → Nat} {d : Bool} {D : Nat → Nat} {W H : Nat → BW} {Y : Nat → Nat} (hm : m ≤ 12) (hp : (2 * p) + 1 < m) (hc2 : ∀ j, c j < 256) (K : ∀ (Q : Nat → Nat) (fl : Bool), (∀ j, j < 32 → Q j = c (32 * (2 * p) + j) ∧ Q (32 + j) = c (32 * ((2 * p) + 1) + j)) → (∀ j, Q j < 256) → (fl = true ↔ ∀ j, j < 32 → c (32 * (2 * p) + j) = c (32 * ((2 * p) + 1) + j)) → j_V g κ 0 0 173 [(0, .ref o), (1, .int (nI m)), (2, .int (nI (2 * p))), (3, .int (nI ((2 * p) + 1))), (4, .int (if fl = true then (1 : Int32) else 0)), (5, .int (nI 32))] [] ([(o, .inr (6, mo a sz le ib (nI cnt) pl at_ wr wh (if d = true then (1 : Int32) else 0))), (a 12, .inl (aI g, 416, .inl (nf v))), (a 13, .inl (aI g, 384, .inl (nf c))), (a 14, .inl (aI g, 32, .inl (nf rt))), (a 15, .inl (aI g, 2112, .inl (nf Q))), (a 16, .inl (aI g, 32, .inl (nf D))), (a 17, .inl (aJ g, 64, .inr (.inl (lf64 (bn cK))))), (a 18, .inl (aJ g, 8, .inr (.inl (lf64 (bn cH))))), (a 19, .inl (aJ g, 64, .inr (.inl (lf64 (bn W))))), (a 20, .inl (aJ g, 8, .inr (.inl (lf64 (bn H))))), (a 22, .inl (aJ g, 10, .inr (.inl (lf64 Y))))])) (C : j_C g κ b_Mod_join R_Mod rm_Mod_join 6) : ∀ (k : Nat) (k5 : Nat) (Q : Nat → Nat) (fl : Bool), k5 ≤ 32 → 32 + 1 ≤ k5 + k → (∀ j, j < k5 → Q j = c (32 * (2 * p) + j) ∧ Q (32 + j) = c (32 * ((2 * p) + 1) + j)) → (∀ j, Q j < 256) → (fl = true ↔ ∀ j, j < k5 → c (32 * (2 * p) + j) = c (32 * ((2 * p) + 1) + j)) → j_V g κ (0) (0) 80 [(0, .ref o), (1, .int (nI m)), (2, .int (nI (2 * p))), (3, .int (nI ((2 * p) + 1))), (4, .int (if fl = true then (1 : Int32) else 0)), (5, .int (nI k5))] [] ([(o, .inr (6, mo a sz le ib (nI cnt) pl at_ wr wh (if d = true then (1 : Int32) else 0))), (a 12, .inl (aI g, 416, .inl (nf v))), (a 13, .inl (aI g, 384, .inl (nf c))), (a 14, .inl (aI g, 32, .inl (nf rt))), (a 15, .inl (aI g, 2112, .inl (nf Q))), (a 16, .inl (aI g, 32, .inl (nf D))), (a 17, .inl (aJ g, 64, .inr (.inl (lf64 (bn cK))))), (a 18, .inl (aJ g, 8, .inr (.inl (lf64 (bn cH))))), (a 19, .inl (aJ g, 64, .inr (.inl (lf64 (bn W))))), (a 20, .inl (aJ g, 8, .inr (.inl (lf64 (bn H))))), (a 22, .inl (aJ g, 10, .inr (.inl (lf64 Y))))]) := by
  intro k
  induction k with
  | zero =>
    intro k5 Q fl hk5 hk hQ hQ2 hf
    exfalso; omega
  | succ k ih =>
    intro k5 Q fl hk5 hk hQ hQ2 hf
    refine j_iload (pc := 80) C d_Mod_join_80 5 rfl ?_
    refine j_bipush (pc := 82) (v := nI 32) C d_Mod_join_82 (by decide) ?_
    refine j_icmp_geN (pc := 84) (tgt := 173) C (by omega) (by omega) d_Mod_join_84 rfl (fun c84 => ?_) (fun c84 => ?_)
    · skip
      obtain rfl : k5 = 32 := by omega
      exact j_lv [0, 1, 2, 3, 4, 5] rfl (K Q fl hQ hQ2 hf)
    · skip
      refine j_iload (pc := 87) C d_Mod_join_87 4 rfl ?_
      refine j_if_eqB (pc := 89) (tgt := 123) C d_Mod_join_89 rfl (fun c89 => ?_) (fun c89 => ?_)
      · skip
        refine j_iconst (pc := 123) (v := nI 0) C d_Mod_join_123 (by decide) ?_
        refine j_istore (pc := 124) (lv' := [(4, .int (nI 0)), (0, .ref o), (1, .int (nI m)), (2, .int (nI (2 * p))), (3, .int (nI ((2 * p) + 1))), (5, .int (nI k5))]) C d_Mod_join_124 (by decide) rfl ?_
        refine j_aload_n (pc := 126) C d_Mod_join_126 rfl 1 rfl ?_
        refine j_get (pc := 127) C F_Mod_59 0 rfl rfl d_Mod_join_127 ?_
        refine j_iload (pc := 130) C d_Mod_join_130 5 rfl ?_
        refine j_aload_n (pc := 132) C d_Mod_join_132 rfl 1 rfl ?_
        refine j_get (pc := 133) C F_Mod_53 0 rfl rfl d_Mod_join_133 ?_
        refine j_bipush (pc := 136) (v := nI 32) C d_Mod_join_136 (by decide) ?_
        refine j_iload_n (pc := 138) C d_Mod_join_138 rfl 3 rfl ?_
        refine j_imulN (pc := 139) C d_Mod_join_139 ?_
        refine j_iload (pc := 140) C d_Mod_join_140 5 rfl ?_
        refine j_iaddN (pc := 142) C d_Mod_join_142 ?_
        refine j_ialdN (pc := 143) C 2 1 rfl rfl (by omega) (by omega) d_Mod_join_143 ?_
        refine j_iastB (pc := 144) (ws' := [(o, .inr (6, mo a sz le ib (nI cnt) pl at_ wr wh (if d = true then (1 : Int32) else 0))), (a 12, .inl (aI g, 416, .inl (nf v))), (a 13, .inl (aI g, 384, .inl (nf c))), (a 14, .inl (aI g, 32, .inl (nf rt))), (a 15, .inl (aI g, 2112, .inl (nf (va_up Q k5 (c ((32 * (2 * p)) + k5)))))), (a 16, .inl (aI g, 32, .inl (nf D))), (a 17, .inl (aJ g, 64, .inr (.inl (lf64 (bn cK))))), (a 18, .inl (aJ g, 8, .inr (.inl (lf64 (bn cH))))), (a 19, .inl (aJ g, 64, .inr (.inl (lf64 (bn W))))), (a 20, .inl (aJ g, 8, .inr (.inl (lf64 (bn H))))), (a 22, .inl (aJ g, 10, .inr (.inl (lf64 Y))))]) C 4 1 rfl rfl (by omega) (by omega) rfl d_Mod_join_144 ?_
        refine j_aload_n (pc := 145) C d_Mod_join_145 rfl 1 rfl ?_
        refine j_get (pc := 146) C F_Mod_59 0 rfl rfl d_Mod_join_146 ?_
        refine j_bipush (pc := 149) (v := nI 32) C d_Mod_join_149 (by decide) ?_
        refine j_iload (pc := 151) C d_Mod_join_151 5 rfl ?_
        refine j_iaddN (pc := 153) C d_Mod_join_153 ?_
        refine j_aload_n (pc := 154) C d_Mod_join_154 rfl 1 rfl ?_
        refine j_get (pc := 155) C F_Mod_53 0 rfl rfl d_Mod_join_155 ?_
        refine j_bipush (pc := 158) (v := nI 32) C d_Mod_join_158 (by decide) ?_
        refine j_iload_n (pc := 160) C d_Mod_join_160 rfl 4 rfl ?_
        refine j_imulN (pc := 161) C d_Mod_join_161 ?_
        refine j_iload (pc := 162) C d_Mod_join_162 5 rfl ?_
        refine j_iaddN (pc := 164) C d_Mod_join_164 ?_
        refine j_ialdN (pc := 165) C 2 1 rfl rfl (by omega) (by omega) d_Mod_join_165 ?_
        refine j_iastB (pc := 166) (ws' := [(o, .inr (6, mo a sz le ib (nI cnt) pl at_ wr wh (if d = true then (1 : Int32) else 0))), (a 12, .inl (aI g, 416, .inl (nf v))), (a 13, .inl (aI g, 384, .inl (nf c))), (a 14, .inl (aI g, 32, .inl (nf rt))), (a 15, .inl (aI g, 2112, .inl (nf (va_up (va_up Q k5 (c ((32 * (2 * p)) + k5))) (32 + k5) (c ((32 * ((2 * p) + 1)) + k5)))))), (a 16, .inl (aI g, 32, .inl (nf D))), (a 17, .inl (aJ g, 64, .inr (.inl (lf64 (bn cK))))), (a 18, .inl (aJ g, 8, .inr (.inl (lf64 (bn cH))))), (a 19, .inl (aJ g, 64, .inr (.inl (lf64 (bn W))))), (a 20, .inl (aJ g, 8, .inr (.inl (lf64 (bn H))))), (a 22, .inl (aJ g, 10, .inr (.inl (lf64 Y))))]) C 4 1 rfl rfl (by omega) (by omega) rfl d_Mod_join_166 ?_
        refine j_iinc (pc := 167) (k := 5) (v := nI (k5 + 1)) (lv' := [(5, .int (nI (k5 + 1))), (4, .int (nI 0)), (0, .ref o), (1, .int (nI m)), (2, .int (nI (2 * p))), (3, .int (nI ((2 * p) + 1)))]) C d_Mod_join_167 rfl (j_inc _ _) (by decide) rfl ?_
        refine j_goto (pc := 170) (tgt := 80) C d_Mod_join_170 rfl ?_
        refine j_lv (lv' := [(0, .ref o), (1, .int (nI m)), (2, .int (nI (2 * p))), (3, .int (nI ((2 * p) + 1))), (4, .int (nI 0)), (5, .int (nI (k5 + 1)))]) [2, 3, 4, 5, 1, 0] rfl ?_
        exact ih (k5 + 1) _ false (by omega) (by omega) (pq_s (by omega) hQ) (up_lt (up_lt hQ2 (hc2 _)) (hc2 _)) ⟨fun h => Bool.noConfusion h, fun h => by first | exact absurd (h k5 (by omega)) c116 | exact absurd (hf.mpr (fun j hj => h j (by omega))) c89⟩
      · skip
        refine j_aload_n (pc := 92) C d_Mod_join_92 rfl 0 rfl ?_
        refine j_get (pc := 93) C F_Mod_53 0 rfl rfl d_Mod_join_93 ?_
        refine j_bipush (pc := 96) (v := nI 32) C d_Mod_join_96 (by decide) ?_
        refine j_iload_n (pc := 98) C d_Mod_join_98 rfl 2 rfl ?_
        refine j_imulN (pc := 99) C d_Mod_join_99 ?_
        refine j_iload (pc := 100) C d_Mod_join_100 5 rfl ?_
        refine j_iaddN (pc := 102) C d_Mod_join_102 ?_
        refine j_ialdN (pc := 103) C 2 1 rfl rfl (by omega) (by omega) d_Mod_join_103 ?_
        refine j_aload_n (pc := 104) C d_Mod_join_104 rfl 0 rfl ?_
        refine j_get (pc := 105) C F_Mod_53 0 rfl rfl d_Mod_join_105 ?_
        refine j_bipush (pc := 108) (v := nI 32) C d_Mod_join_108 (by decide) ?_
        refine j_iload_n (pc := 110) C d_Mod_join_110 rfl 3 rfl ?_
        refine j_imulN (pc := 111) C d_Mod_join_111 ?_
        refine j_iload (pc := 112) C d_Mod_join_112 5 rfl ?_
        refine j_iaddN (pc := 114) C d_Mod_join_114 ?_
        refine j_ialdN (pc := 115) C 2 1 rfl rfl (by omega) (by omega) d_Mod_join_115 ?_
        have z1 := hc2 (32 * (2 * p) + k5)
        have z2 := hc2 (32 * ((2 * p) + 1) + k5)
        refine j_icmp_neN (pc := 116) (tgt := 123) C (by omega) (by omega) d_Mod_join_116 rfl (fun c116 => ?_) (fun c116 => ?_)
        · skip
          refine j_iconst (pc := 123) (v := nI 0) C d_Mod_join_123 (by decide) ?_
          refine j_istore (pc := 124) (lv' := [(4, .int (nI 0)), (0, .ref o), (1, .int (nI m)), (2, .int (nI (2 * p))), (3, .int (nI ((2 * p) + 1))), (5, .int (nI k5))]) C d_Mod_join_124 (by decide) rfl ?_
          refine j_aload_n (pc := 126) C d_Mod_join_126 rfl 1 rfl ?_
          refine j_get (pc := 127) C F_Mod_59 0 rfl rfl d_Mod_join_127 ?_
          refine j_iload (pc := 130) C d_Mod_join_130 5 rfl ?_
          refine j_aload_n (pc := 132) C d_Mod_join_132 rfl 1 rfl ?_
          refine j_get (pc := 133) C F_Mod_53 0 rfl rfl d_Mod_join_133 ?_
          refine j_bipush (pc := 136) (v := nI 32) C d_Mod_join_136 (by decide) ?_
          refine j_iload_n (pc := 138) C d_Mod_join_138 rfl 3 rfl ?_
          refine j_imulN (pc := 139) C d_Mod_join_139 ?_
          refine j_iload (pc := 140) C d_Mod_join_140 5 rfl ?_
          refine j_iaddN (pc := 142) C d_Mod_join_142 ?_
          refine j_ialdN (pc := 143) C 2 1 rfl rfl (by omega) (by omega) d_Mod_join_143 ?_
          refine j_iastB (pc := 144) (ws' := [(o, .inr (6, mo a sz le ib (nI cnt) pl at_ wr wh (if d = true then (1 : Int32) else 0))), (a 12, .inl (aI g, 416, .inl (nf v))), (a 13, .inl (aI g, 384, .inl (nf c))), (a 14, .inl (aI g, 32, .inl (nf rt))), (a 15, .inl (aI g, 2112, .inl (nf (va_up Q k5 (c ((32 * (2 * p)) + k5)))))), (a 16, .inl (aI g, 32, .inl (nf D))), (a 17, .inl (aJ g, 64, .inr (.inl (lf64 (bn cK))))), (a 18, .inl (aJ g, 8, .inr (.inl (lf64 (bn cH))))), (a 19, .inl (aJ g, 64, .inr (.inl (lf64 (bn W))))), (a 20, .inl (aJ g, 8, .inr (.inl (lf64 (bn H))))), (a 22, .inl (aJ g, 10, .inr (.inl (lf64 Y))))]) C 4 1 rfl rfl (by omega) (by omega) rfl d_Mod_join_144 ?_
          refine j_aload_n (pc := 145) C d_Mod_join_145 rfl 1 rfl ?_
          refine j_get (pc := 146) C F_Mod_59 0 rfl rfl d_Mod_join_146 ?_
          refine j_bipush (pc := 149) (v := nI 32) C d_Mod_join_149 (by decide) ?_
          refine j_iload (pc := 151) C d_Mod_join_151 5 rfl ?_
          refine j_iaddN (pc := 153) C d_Mod_join_153 ?_
          refine j_aload_n (pc := 154) C d_Mod_join_154 rfl 1 rfl ?_
          refine j_get (pc := 155) C F_Mod_53 0 rfl rfl d_Mod_join_155 ?_
          refine j_bipush (pc := 158) (v := nI 32) C d_Mod_join_158 (by decide) ?_
          refine j_iload_n (pc := 160) C d_Mod_join_160 rfl 4 rfl ?_
          refine j_imulN (pc := 161) C d_Mod_join_161 ?_
          refine j_iload (pc := 162) C d_Mod_join_162 5 rfl ?_
          refine j_iaddN (pc := 164) C d_Mod_join_164 ?_
          refine j_ialdN (pc := 165) C 2 1 rfl rfl (by omega) (by omega) d_Mod_join_165 ?_
          refine j_iastB (pc := 166) (ws' := [(o, .inr (6, mo a sz le ib (nI cnt) pl at_ wr wh (if d = true then (1 : Int32) else 0))), (a 12, .inl (aI g, 416, .inl (nf v))), (a 13, .inl (aI g, 384, .inl (nf c))), (a 14, .inl (aI g, 32, .inl (nf rt))), (a 15, .inl (aI g, 2112, .inl (nf (va_up (va_up Q k5 (c ((32 * (2 * p)) + k5))) (32 + k5) (c ((32 * ((2 * p) + 1)) + k5)))))), (a 16, .inl (aI g, 32, .inl (nf D))), (a 17, .inl (aJ g, 64, .inr (.inl (lf64 (bn cK))))), (a 18, .inl (aJ g, 8, .inr (.inl (lf64 (bn cH))))), (a 19, .inl (aJ g, 64, .inr (.inl (lf64 (bn W))))), (a 20, .inl (aJ g, 8, .inr (.inl (lf64 (bn H))))), (a 22, .inl (aJ g, 10, .inr (.inl (lf64 Y))))]) C 4 1 rfl rfl (by omega) (by omega) rfl d_Mod_join_166 ?_
          refine j_iinc (pc := 167) (k := 5) (v := nI (k5 + 1)) (lv' := [(5, .int (nI (k5 + 1))), (4, .int (nI 0)), (0, .ref o), (1, .int (nI m)), (2, .int (nI (2 * p))), (3, .int (nI ((2 * p) + 1)))]) C d_Mod_join_167 rfl (j_inc _ _) (by decide) rfl ?_
          refine j_goto (pc := 170) (tgt := 80) C d_Mod_join_170 rfl ?_
          refine j_lv (lv' := [(0, .ref o), (1, .int (nI m)), (2, .int (nI (2 * p))), (3, .int (nI ((2 * p) + 1))), (4, .int (nI 0)), (5, .int (nI (k5 + 1)))]) [2, 3, 4, 5, 1, 0] rfl ?_
          exact ih (k5 + 1) _ false (by omega) (by omega) (pq_s (by omega) hQ) (up_lt (up_lt hQ2 (hc2 _)) (hc2 _)) ⟨fun h => Bool.noConfusion h, fun h => by first | exact absurd (h k5 (by omega)) c116 | exact absurd (hf.mpr (fun j hj => h j (by omega))) c89⟩
        · skip
          refine j_iconst (pc := 119) (v := nI 1) C d_Mod_join_119 (by decide) ?_
          refine j_goto (pc := 120) (tgt := 124) C d_Mod_join_120 rfl ?_
          refine j_istore (pc := 124) (lv' := [(4, .int (nI 1)), (0, .ref o), (1, .int (nI m)), (2, .int (nI (2 * p))), (3, .int (nI ((2 * p) + 1))), (5, .int (nI k5))]) C d_Mod_join_124 (by decide) rfl ?_
          refine j_aload_n (pc := 126) C d_Mod_join_126 rfl 1 rfl ?_
          refine j_get (pc := 127) C F_Mod_59 0 rfl rfl d_Mod_join_127 ?_
          refine j_iload (pc := 130) C d_Mod_join_130 5 rfl ?_
          refine j_aload_n (pc := 132) C d_Mod_join_132 rfl 1 rfl ?_
          refine j_get (pc := 133) C F_Mod_53 0 rfl rfl d_Mod_join_133 ?_
          refine j_bipush (pc := 136) (v := nI 32) C d_Mod_join_136 (by decide) ?_
          refine j_iload_n (pc := 138) C d_Mod_join_138 rfl 3 rfl ?_
          refine j_imulN (pc := 139) C d_Mod_join_139 ?_
          refine j_iload (pc := 140) C d_Mod_join_140 5 rfl ?_
          refine j_iaddN (pc := 142) C d_Mod_join_142 ?_
          refine j_ialdN (pc := 143) C 2 1 rfl rfl (by omega) (by omega) d_Mod_join_143 ?_
          refine j_iastB (pc := 144) (ws' := [(o, .inr (6, mo a sz le ib (nI cnt) pl at_ wr wh (if d = true then (1 : Int32) else 0))), (a 12, .inl (aI g, 416, .inl (nf v))), (a 13, .inl (aI g, 384, .inl (nf c))), (a 14, .inl (aI g, 32, .inl (nf rt))), (a 15, .inl (aI g, 2112, .inl (nf (va_up Q k5 (c ((32 * (2 * p)) + k5)))))), (a 16, .inl (aI g, 32, .inl (nf D))), (a 17, .inl (aJ g, 64, .inr (.inl (lf64 (bn cK))))), (a 18, .inl (aJ g, 8, .inr (.inl (lf64 (bn cH))))), (a 19, .inl (aJ g, 64, .inr (.inl (lf64 (bn W))))), (a 20, .inl (aJ g, 8, .inr (.inl (lf64 (bn H))))), (a 22, .inl (aJ g, 10, .inr (.inl (lf64 Y))))]) C 4 1 rfl rfl (by omega) (by omega) rfl d_Mod_join_144 ?_
          refine j_aload_n (pc := 145) C d_Mod_join_145 rfl 1 rfl ?_
          refine j_get (pc := 146) C F_Mod_59 0 rfl rfl d_Mod_join_146 ?_
          refine j_bipush (pc := 149) (v := nI 32) C d_Mod_join_149 (by decide) ?_
          refine j_iload (pc := 151) C d_Mod_join_151 5 rfl ?_
          refine j_iaddN (pc := 153) C d_Mod_join_153 ?_
          refine j_aload_n (pc := 154) C d_Mod_join_154 rfl 1 rfl ?_
          refine j_get (pc := 155) C F_Mod_53 0 rfl rfl d_Mod_join_155 ?_
          refine j_bipush (pc := 158) (v := nI 32) C d_Mod_join_158 (by decide) ?_
          refine j_iload_n (pc := 160) C d_Mod_join_160 rfl 4 rfl ?_
          refine j_imulN (pc := 161) C d_Mod_join_161 ?_
          refine j_iload (pc := 162) C d_Mod_join_162 5 rfl ?_
          refine j_iaddN (pc := 164) C d_Mod_join_164 ?_
          refine j_ialdN (pc := 165) C 2 1 rfl rfl (by omega) (by omega) d_Mod_join_165 ?_
          refine j_iastB (pc := 166) (ws' := [(o, .inr (6, mo a sz le ib (nI cnt) pl at_ wr wh (if d = true then (1 : Int32) else 0))), (a 12, .inl (aI g, 416, .inl (nf v))), (a 13, .inl (aI g, 384, .inl (nf c))), (a 14, .inl (aI g, 32, .inl (nf rt))), (a 15, .inl (aI g, 2112, .inl (nf (va_up (va_up Q k5 (c ((32 * (2 * p)) + k5))) (32 + k5) (c ((32 * ((2 * p) + 1)) + k5)))))), (a 16, .inl (aI g, 32, .inl (nf D))), (a 17, .inl (aJ g, 64, .inr (.inl (lf64 (bn cK))))), (a 18, .inl (aJ g, 8, .inr (.inl (lf64 (bn cH))))), (a 19, .inl (aJ g, 64, .inr (.inl (lf64 (bn W))))), (a 20, .inl (aJ g, 8, .inr (.inl (lf64 (bn H))))), (a 22, .inl (aJ g, 10, .inr (.inl (lf64 Y))))]) C 4 1 rfl rfl (by omega) (by omega) rfl d_Mod_join_166 ?_
          refine j_iinc (pc := 167) (k := 5) (v := nI (k5 + 1)) (lv' := [(5, .int (nI (k5 + 1))), (4, .int (nI 1)), (0, .ref o), (1, .int (nI m)), (2, .int (nI (2 * p))), (3, .int (nI ((2 * p) + 1)))]) C d_Mod_join_167 rfl (j_inc _ _) (by decide) rfl ?_
          refine j_goto (pc := 170) (tgt := 80) C d_Mod_join_170 rfl ?_
          refine j_lv (lv' := [(0, .ref o), (1, .int (nI m)), (2, .int (nI (2 * p))), (3, .int (nI ((2 * p) + 1))), (4, .int (nI 1)), (5, .int (nI (k5 + 1)))]) [2, 3, 4, 5, 1, 0] rfl ?_
          exact ih (k5 + 1) _ true (by omega) (by omega) (pq_s (by omega) hQ) (up_lt (up_lt hQ2 (hc2 _)) (hc2 _)) (fl_t (hf.mp c89) c116)
set_option maxHeartbeats 4000000 in
set_option maxRecDepth 100000 in
theorem lp_j2_0 {g : JX} {κ : JK} {o cnt : Nat} {a : Nat → Nat} {v rt : Nat → Nat} {sz le ib pl at_ wr wh : Int32} {m p : Nat} {c : Nat → Nat} {d : Bool} {D : Nat → Nat} {W H : Nat → BW} {Y : Nat → Nat} (hm : m ≤ 12) (hp : 2 * p < m) (hc2 : ∀ j, c j < 256) (K : ∀ (Q : Nat → Nat), (∀ j, j < 32 → Q j = c (32 * (2 * p) + j) ∧ Q (32 + j) = c (32 * (2 * p) + j)) → (∀ j, Q j < 256) → j_V g κ 0 0 173 [(0, .ref o), (1, .int (nI m)), (2, .int (nI (2 * p))), (3, .int (nI (2 * p))), (4, .int (nI 0)), (5, .int (nI 32))] [] ([(o, .inr (6, mo a sz le ib (nI cnt) pl at_ wr wh (if d = true then (1 : Int32) else 0))), (a 12, .inl (aI g, 416, .inl (nf v))), (a 13, .inl (aI g, 384, .inl (nf c))), (a 14, .inl (aI g, 32, .inl (nf rt))), (a 15, .inl (aI g, 2112, .inl (nf Q))), (a 16, .inl (aI g, 32, .inl (nf D))), (a 17, .inl (aJ g, 64, .inr (.inl (lf64 (bn cK))))), (a 18, .inl (aJ g, 8, .inr (.inl (lf64 (bn cH))))), (a 19, .inl (aJ g, 64, .inr (.inl (lf64 (bn W))))), (a 20, .inl (aJ g, 8, .inr (.inl (lf64 (bn H))))), (a 22, .inl (aJ g, 10, .inr (.inl (lf64 Y))))])) (C : j_C g κ b_Mod_join R_Mod rm_Mod_join 6) : ∀ (k : Nat) (k5 : Nat) (Q : Nat → Nat), k5 ≤ 32 → 32 + 1 ≤ k5 + k → (∀ j, j < k5 → Q j = c (32 * (2 * p) + j) ∧ Q (32 + j) = c (32 * (2 * p) + j)) → (∀ j, Q j < 256) → j_V g κ (0) (0) 80 [(0, .ref o), (1, .int (nI m)), (2, .int (nI (2 * p))), (3, .int (nI (2 * p))), (4, .int (nI 0)), (5, .int (nI k5))] [] ([(o, .inr (6, mo a sz le ib (nI cnt) pl at_ wr wh (if d = true then (1 : Int32) else 0))), (a 12, .inl (aI g, 416, .inl (nf v))), (a 13, .inl (aI g, 384, .inl (nf c))), (a 14, .inl (aI g, 32, .inl (nf rt))), (a 15, .inl (aI g, 2112, .inl (nf Q))), (a 16, .inl (aI g, 32, .inl (nf D))), (a 17, .inl (aJ g, 64, .inr (.inl (lf64 (bn cK))))), (a 18, .inl (aJ g, 8, .inr (.inl (lf64 (bn cH))))), (a 19, .inl (aJ g, 64, .inr (.inl (lf64 (bn W))))), (a 20, .inl (aJ g, 8, .inr (.inl (lf64 (bn H))))), (a 22, .inl (aJ g, 10, .inr (.inl (lf64 Y))))]) := by
  intro k
  induction k with
  | zero =>
    intro k5 Q hk5 hk hQ hQ2
    exfalso; omega
  | succ k ih =>
    intro k5 Q hk5 hk hQ hQ2
    refine j_iload (pc := 80) C d_Mod_join_80 5 rfl ?_
    refine j_bipush (pc := 82) (v := nI 32) C d_Mod_join_82 (by decide) ?_
    refine j_icmp_geN (pc := 84) (tgt := 173) C (by omega) (by omega) d_Mod_join_84 rfl (fun c84 => ?_) (fun c84 => ?_)
    · skip
      obtain rfl : k5 = 32 := by omega
      exact j_lv [0, 1, 2, 3, 4, 5] rfl (K Q hQ hQ2)
    · skip
      refine j_iload (pc := 87) C d_Mod_join_87 4 rfl ?_
      refine j_if_eqN (pc := 89) (tgt := 123) C (by omega) d_Mod_join_89 rfl (fun c89 => ?_) (fun c89 => ?_)
      · skip
        refine j_iconst (pc := 123) (v := nI 0) C d_Mod_join_123 (by decide) ?_
        refine j_istore (pc := 124) (lv' := [(4, .int (nI 0)), (0, .ref o), (1, .int (nI m)), (2, .int (nI (2 * p))), (3, .int (nI (2 * p))), (5, .int (nI k5))]) C d_Mod_join_124 (by decide) rfl ?_
        refine j_aload_n (pc := 126) C d_Mod_join_126 rfl 1 rfl ?_
        refine j_get (pc := 127) C F_Mod_59 0 rfl rfl d_Mod_join_127 ?_
        refine j_iload (pc := 130) C d_Mod_join_130 5 rfl ?_
        refine j_aload_n (pc := 132) C d_Mod_join_132 rfl 1 rfl ?_
        refine j_get (pc := 133) C F_Mod_53 0 rfl rfl d_Mod_join_133 ?_
        refine j_bipush (pc := 136) (v := nI 32) C d_Mod_join_136 (by decide) ?_
        refine j_iload_n (pc := 138) C d_Mod_join_138 rfl 3 rfl ?_
        refine j_imulN (pc := 139) C d_Mod_join_139 ?_
        refine j_iload (pc := 140) C d_Mod_join_140 5 rfl ?_
        refine j_iaddN (pc := 142) C d_Mod_join_142 ?_
        refine j_ialdN (pc := 143) C 2 1 rfl rfl (by omega) (by omega) d_Mod_join_143 ?_
        refine j_iastB (pc := 144) (ws' := [(o, .inr (6, mo a sz le ib (nI cnt) pl at_ wr wh (if d = true then (1 : Int32) else 0))), (a 12, .inl (aI g, 416, .inl (nf v))), (a 13, .inl (aI g, 384, .inl (nf c))), (a 14, .inl (aI g, 32, .inl (nf rt))), (a 15, .inl (aI g, 2112, .inl (nf (va_up Q k5 (c ((32 * (2 * p)) + k5)))))), (a 16, .inl (aI g, 32, .inl (nf D))), (a 17, .inl (aJ g, 64, .inr (.inl (lf64 (bn cK))))), (a 18, .inl (aJ g, 8, .inr (.inl (lf64 (bn cH))))), (a 19, .inl (aJ g, 64, .inr (.inl (lf64 (bn W))))), (a 20, .inl (aJ g, 8, .inr (.inl (lf64 (bn H))))), (a 22, .inl (aJ g, 10, .inr (.inl (lf64 Y))))]) C 4 1 rfl rfl (by omega) (by omega) rfl d_Mod_join_144 ?_
        refine j_aload_n (pc := 145) C d_Mod_join_145 rfl 1 rfl ?_
        refine j_get (pc := 146) C F_Mod_59 0 rfl rfl d_Mod_join_146 ?_
        refine j_bipush (pc := 149) (v := nI 32) C d_Mod_join_149 (by decide) ?_
        refine j_iload (pc := 151) C d_Mod_join_151 5 rfl ?_
        refine j_iaddN (pc := 153) C d_Mod_join_153 ?_
        refine j_aload_n (pc := 154) C d_Mod_join_154 rfl 1 rfl ?_
        refine j_get (pc := 155) C F_Mod_53 0 rfl rfl d_Mod_join_155 ?_
        refine j_bipush (pc := 158) (v := nI 32) C d_Mod_join_158 (by decide) ?_
        refine j_iload_n (pc := 160) C d_Mod_join_160 rfl 4 rfl ?_
        refine j_imulN (pc := 161) C d_Mod_join_161 ?_
        refine j_iload (pc := 162) C d_Mod_join_162 5 rfl ?_
        refine j_iaddN (pc := 164) C d_Mod_join_164 ?_
        refine j_ialdN (pc := 165) C 2 1 rfl rfl (by omega) (by omega) d_Mod_join_165 ?_
        refine j_iastB (pc := 166) (ws' := [(o, .inr (6, mo a sz le ib (nI cnt) pl at_ wr wh (if d = true then (1 : Int32) else 0))), (a 12, .inl (aI g, 416, .inl (nf v))), (a 13, .inl (aI g, 384, .inl (nf c))), (a 14, .inl (aI g, 32, .inl (nf rt))), (a 15, .inl (aI g, 2112, .inl (nf (va_up (va_up Q k5 (c ((32 * (2 * p)) + k5))) (32 + k5) (c ((32 * (2 * p)) + k5)))))), (a 16, .inl (aI g, 32, .inl (nf D))), (a 17, .inl (aJ g, 64, .inr (.inl (lf64 (bn cK))))), (a 18, .inl (aJ g, 8, .inr (.inl (lf64 (bn cH))))), (a 19, .inl (aJ g, 64, .inr (.inl (lf64 (bn W))))), (a 20, .inl (aJ g, 8, .inr (.inl (lf64 (bn H))))), (a 22, .inl (aJ g, 10, .inr (.inl (lf64 Y))))]) C 4 1 rfl rfl (by omega) (by omega) rfl d_Mod_join_166 ?_
        refine j_iinc (pc := 167) (k := 5) (v := nI (k5 + 1)) (lv' := [(5, .int (nI (k5 + 1))), (4, .int (nI 0)), (0, .ref o), (1, .int (nI m)), (2, .int (nI (2 * p))), (3, .int (nI (2 * p)))]) C d_Mod_join_167 rfl (j_inc _ _) (by decide) rfl ?_
        refine j_goto (pc := 170) (tgt := 80) C d_Mod_join_170 rfl ?_
        refine j_lv (lv' := [(0, .ref o), (1, .int (nI m)), (2, .int (nI (2 * p))), (3, .int (nI (2 * p))), (4, .int (nI 0)), (5, .int (nI (k5 + 1)))]) [2, 3, 4, 5, 1, 0] rfl ?_
        exact ih (k5 + 1) _ (by omega) (by omega) (pq_s (by omega) hQ) (up_lt (up_lt hQ2 (hc2 _)) (hc2 _))
      · exfalso; omega
set_option maxHeartbeats 4000000 in
set_option maxRecDepth 100000 in
theorem lp_j3 {g : JX} {κ : JK} {o cnt : Nat} {a : Nat → Nat} {v rt : Nat → Nat} {sz le ib pl at_ wr wh : Int32} {m p : Nat} {c s Q : Nat → Nat} {db : Int32} {D : Nat → Nat} {W H : Nat → BW} {Y : Nat → Nat} (hp : 2 * p < 12) (hN : ∀ j, j < 32 → D j = s j) (K : j_V g κ 0 0 235 [(0, .ref o), (1, .int (nI m)), (2, .int (nI (2 * p)))] [] ([(o, .inr (6, mo a sz le ib (nI cnt) pl at_ wr wh db)), (a 12, .inl (aI g, 416, .inl (nf v))), (a 13, .inl (aI g, 384, .inl (nf (putF c (16 * (2 * p)) 32 s)))), (a 14, .inl (aI g, 32, .inl (nf rt))), (a 15, .inl (aI g, 2112, .inl (nf Q))), (a 16, .inl (aI g, 32, .inl (nf D))), (a 17, .inl (aJ g, 64, .inr (.inl (lf64 (bn cK))))), (a 18, .inl (aJ g, 8, .inr (.inl (lf64 (bn cH))))), (a 19, .inl (aJ g, 64, .inr (.inl (lf64 (bn W))))), (a 20, .inl (aJ g, 8, .inr (.inl (lf64 (bn H))))), (a 22, .inl (aJ g, 10, .inr (.inl (lf64 Y))))])) (C : j_C g κ b_Mod_join R_Mod rm_Mod_join 6) : ∀ (k : Nat) (k5 : Nat), k5 ≤ 32 → 32 + 1 ≤ k5 + k → j_V g κ (0) (0) 203 [(0, .ref o), (1, .int (nI m)), (2, .int (nI (2 * p))), (5, .int (nI k5))] [] ([(o, .inr (6, mo a sz le ib (nI cnt) pl at_ wr wh db)), (a 12, .inl (aI g, 416, .inl (nf v))), (a 13, .inl (aI g, 384, .inl (nf (putF c (16 * (2 * p)) k5 s)))), (a 14, .inl (aI g, 32, .inl (nf rt))), (a 15, .inl (aI g, 2112, .inl (nf Q))), (a 16, .inl (aI g, 32, .inl (nf D))), (a 17, .inl (aJ g, 64, .inr (.inl (lf64 (bn cK))))), (a 18, .inl (aJ g, 8, .inr (.inl (lf64 (bn cH))))), (a 19, .inl (aJ g, 64, .inr (.inl (lf64 (bn W))))), (a 20, .inl (aJ g, 8, .inr (.inl (lf64 (bn H))))), (a 22, .inl (aJ g, 10, .inr (.inl (lf64 Y))))]) := by
  intro k
  induction k with
  | zero =>
    intro k5 hk5 hk
    exfalso; omega
  | succ k ih =>
    intro k5 hk5 hk
    refine j_iload (pc := 203) C d_Mod_join_203 3 rfl ?_
    refine j_bipush (pc := 205) (v := nI 32) C d_Mod_join_205 (by decide) ?_
    refine j_icmp_geN (pc := 207) (tgt := 235) C (by omega) (by omega) d_Mod_join_207 rfl (fun c207 => ?_) (fun c207 => ?_)
    · skip
      obtain rfl : k5 = 32 := by omega
      exact j_lv [0, 1, 2] rfl K
    · skip
      refine j_aload_n (pc := 210) C d_Mod_join_210 rfl 0 rfl ?_
      refine j_get (pc := 211) C F_Mod_53 0 rfl rfl d_Mod_join_211 ?_
      refine j_bipush (pc := 214) (v := nI 16) C d_Mod_join_214 (by decide) ?_
      refine j_iload_n (pc := 216) C d_Mod_join_216 rfl 2 rfl ?_
      refine j_imulN (pc := 217) C d_Mod_join_217 ?_
      refine j_iload (pc := 218) C d_Mod_join_218 3 rfl ?_
      refine j_iaddN (pc := 220) C d_Mod_join_220 ?_
      refine j_aload_n (pc := 221) C d_Mod_join_221 rfl 0 rfl ?_
      refine j_get (pc := 222) C F_Mod_62 0 rfl rfl d_Mod_join_222 ?_
      refine j_iload (pc := 225) C d_Mod_join_225 3 rfl ?_
      refine j_ialdN (pc := 227) C 5 1 rfl rfl (by omega) (by omega) d_Mod_join_227 ?_
      refine j_rwi (y := nI (s k5)) (congrArg nI (hN k5 (by omega))) ?_
      refine j_iastB (pc := 228) (ws' := [(o, .inr (6, mo a sz le ib (nI cnt) pl at_ wr wh db)), (a 12, .inl (aI g, 416, .inl (nf v))), (a 13, .inl (aI g, 384, .inl (nf (va_up (putF c (16 * (2 * p)) k5 s) ((16 * (2 * p)) + k5) (s k5))))), (a 14, .inl (aI g, 32, .inl (nf rt))), (a 15, .inl (aI g, 2112, .inl (nf Q))), (a 16, .inl (aI g, 32, .inl (nf D))), (a 17, .inl (aJ g, 64, .inr (.inl (lf64 (bn cK))))), (a 18, .inl (aJ g, 8, .inr (.inl (lf64 (bn cH))))), (a 19, .inl (aJ g, 64, .inr (.inl (lf64 (bn W))))), (a 20, .inl (aJ g, 8, .inr (.inl (lf64 (bn H))))), (a 22, .inl (aJ g, 10, .inr (.inl (lf64 Y))))]) C 2 1 rfl rfl (by omega) (by omega) rfl d_Mod_join_228 ?_
      refine j_iinc (pc := 229) (k := 3) (v := nI (k5 + 1)) (lv' := [(5, .int (nI (k5 + 1))), (0, .ref o), (1, .int (nI m)), (2, .int (nI (2 * p)))]) C d_Mod_join_229 rfl (j_inc _ _) (by decide) rfl ?_
      refine j_goto (pc := 232) (tgt := 203) C d_Mod_join_232 rfl ?_
      refine j_lv (lv' := [(0, .ref o), (1, .int (nI m)), (2, .int (nI (2 * p))), (5, .int (nI (k5 + 1)))]) [1, 2, 3, 0] rfl ?_
      rw [putF_s]
      exact ih (k5 + 1) (by omega) (by omega)
set_option maxHeartbeats 4000000 in
set_option maxRecDepth 100000 in
theorem lp_j4 {g : JX} {κ : JK} {o cnt : Nat} {a : Nat → Nat} {v rt : Nat → Nat} {sz le ib pl at_ wr wh : Int32} {m : Nat} {r : Nat → Nat} {d0 : Bool} (hm : m ≤ 12) (K : ∀ (p : Nat) (c : Nat → Nat) (d : Bool) (Q D : Nat → Nat) (W H : Nat → BW) (Y : Nat → Nat), p = (m + 1) / 2 → RInv m r p c → d = (d0 || dbq m r p) → (∀ j, Q j < 256) → (∀ j, D j < 256) → j_V g κ 0 0 242 [(0, .ref o), (1, .int (nI m)), (2, .int (nI (2 * p)))] [] ([(o, .inr (6, mo a sz le ib (nI cnt) pl at_ wr wh (if d = true then (1 : Int32) else 0))), (a 12, .inl (aI g, 416, .inl (nf v))), (a 13, .inl (aI g, 384, .inl (nf c))), (a 14, .inl (aI g, 32, .inl (nf rt))), (a 15, .inl (aI g, 2112, .inl (nf Q))), (a 16, .inl (aI g, 32, .inl (nf D))), (a 17, .inl (aJ g, 64, .inr (.inl (lf64 (bn cK))))), (a 18, .inl (aJ g, 8, .inr (.inl (lf64 (bn cH))))), (a 19, .inl (aJ g, 64, .inr (.inl (lf64 (bn W))))), (a 20, .inl (aJ g, 8, .inr (.inl (lf64 (bn H))))), (a 22, .inl (aJ g, 10, .inr (.inl (lf64 Y))))])) (C : j_C g κ b_Mod_join R_Mod rm_Mod_join 6) : ∀ (k : Nat) (p : Nat) (c : Nat → Nat) (d : Bool) (Q D : Nat → Nat) (W H : Nat → BW) (Y : Nat → Nat), p ≤ (m + 1) / 2 → (m + 1) / 2 + 1 ≤ p + k → RInv m r p c → d = (d0 || dbq m r p) → (∀ j, Q j < 256) → (∀ j, D j < 256) → j_V g κ (0) (0) 45 [(0, .ref o), (1, .int (nI m)), (2, .int (nI (2 * p)))] [] ([(o, .inr (6, mo a sz le ib (nI cnt) pl at_ wr wh (if d = true then (1 : Int32) else 0))), (a 12, .inl (aI g, 416, .inl (nf v))), (a 13, .inl (aI g, 384, .inl (nf c))), (a 14, .inl (aI g, 32, .inl (nf rt))), (a 15, .inl (aI g, 2112, .inl (nf Q))), (a 16, .inl (aI g, 32, .inl (nf D))), (a 17, .inl (aJ g, 64, .inr (.inl (lf64 (bn cK))))), (a 18, .inl (aJ g, 8, .inr (.inl (lf64 (bn cH))))), (a 19, .inl (aJ g, 64, .inr (.inl (lf64 (bn W))))), (a 20, .inl (aJ g, 8, .inr (.inl (lf64 (bn H))))), (a 22, .inl (aJ g, 10, .inr (.inl (lf64 Y))))]) := by
  intro k
  induction k with
  | zero =>
    intro p c d Q D W H Y hpm hk hI hd hQ hD
    exfalso; omega
  | succ k ih =>
    intro p c d Q D W H Y hpm hk hI hd hQ hD
    refine j_iload_n (pc := 45) C d_Mod_join_45 rfl 2 rfl ?_
    refine j_iload_n (pc := 46) C d_Mod_join_46 rfl 1 rfl ?_
    refine j_icmp_geN (pc := 47) (tgt := 242) C (by omega) (by omega) d_Mod_join_47 rfl (fun c47 => ?_) (fun c47 => ?_)
    · skip
      exact j_lv [0, 1, 2] rfl (K p c d Q D W H Y (by omega) hI hd hQ hD)
    · skip
      refine j_iload_n (pc := 50) C d_Mod_join_50 rfl 2 rfl ?_
      refine j_iconst (pc := 51) (v := nI 1) C d_Mod_join_51 (by decide) ?_
      refine j_iaddN (pc := 52) C d_Mod_join_52 ?_
      refine j_iload_n (pc := 53) C d_Mod_join_53 rfl 1 rfl ?_
      refine j_icmp_geN (pc := 54) (tgt := 63) C (by omega) (by omega) d_Mod_join_54 rfl (fun c54 => ?_) (fun c54 => ?_)
      · skip
        refine j_iload_n (pc := 63) C d_Mod_join_63 rfl 2 rfl ?_
        refine j_istore_n (pc := 64) (lv' := [(3, .int (nI (2 * p))), (0, .ref o), (1, .int (nI m)), (2, .int (nI (2 * p)))]) C d_Mod_join_64 rfl (by decide) rfl ?_
        refine j_iload_n (pc := 65) C d_Mod_join_65 rfl 0 rfl ?_
        refine j_iload_n (pc := 66) C d_Mod_join_66 rfl 3 rfl ?_
        refine j_icmp_leN (pc := 67) (tgt := 74) C (by omega) (by omega) d_Mod_join_67 rfl (fun c67 => ?_) (fun c67 => ?_)
        · skip
          refine j_iconst (pc := 74) (v := nI 0) C d_Mod_join_74 (by decide) ?_
          refine j_istore (pc := 75) (lv' := [(4, .int (nI 0)), (3, .int (nI (2 * p))), (0, .ref o), (1, .int (nI m)), (2, .int (nI (2 * p)))]) C d_Mod_join_75 (by decide) rfl ?_
          refine j_iconst (pc := 77) (v := nI 0) C d_Mod_join_77 (by decide) ?_
          refine j_istore (pc := 78) (lv' := [(5, .int (nI 0)), (4, .int (nI 0)), (3, .int (nI (2 * p))), (0, .ref o), (1, .int (nI m)), (2, .int (nI (2 * p)))]) C d_Mod_join_78 (by decide) rfl ?_
          refine j_lv (lv' := [(0, .ref o), (1, .int (nI m)), (2, .int (nI (2 * p))), (3, .int (nI (2 * p))), (4, .int (nI 0)), (5, .int (nI 0))]) [3, 4, 5, 2, 1, 0] rfl ?_
          refine lp_j2_0 (o := o) (cnt := cnt) (a := a) (v := v) (rt := rt) (sz := sz) (le := le) (ib := ib) (pl := pl) (at_ := at_) (wr := wr) (wh := wh) (m := m) (p := p) (c := c) (d := d) (D := D) (W := W) (H := H) (Y := Y) hm (by omega) hI.2.2 (fun Q1 hQ1 hQ2 => ?_) C 33 0 Q (by omega) (by omega) (fun j hj => absurd hj (by omega)) hQ
          have hx := fl_no (m := m) (p := p) (r := r) (by omega)
          have hpr := pr_one (m := m) (p := p) (r := r) (by omega) c47 hI hQ1
          show j_V g κ 0 0 173 [(0, .ref o), (1, .int (nI m)), (2, .int (nI (2 * p))), (3, .int (nI (2 * p))), (4, .int (nI 0)), (5, .int (nI 32))] [] ([(o, .inr (6, mo a sz le ib (nI cnt) pl at_ wr wh (if d = true then (1 : Int32) else 0))), (a 12, .inl (aI g, 416, .inl (nf v))), (a 13, .inl (aI g, 384, .inl (nf c))), (a 14, .inl (aI g, 32, .inl (nf rt))), (a 15, .inl (aI g, 2112, .inl (nf Q1))), (a 16, .inl (aI g, 32, .inl (nf D))), (a 17, .inl (aJ g, 64, .inr (.inl (lf64 (bn cK))))), (a 18, .inl (aJ g, 8, .inr (.inl (lf64 (bn cH))))), (a 19, .inl (aJ g, 64, .inr (.inl (lf64 (bn W))))), (a 20, .inl (aJ g, 8, .inr (.inl (lf64 (bn H))))), (a 22, .inl (aJ g, 10, .inr (.inl (lf64 Y))))])
          refine j_aload_n (pc := 173) C d_Mod_join_173 rfl 0 rfl ?_
          refine j_aload_n (pc := 174) C d_Mod_join_174 rfl 0 rfl ?_
          refine j_get (pc := 175) C F_Mod_133 0 rfl rfl d_Mod_join_175 ?_
          refine j_if_neB (pc := 178) (tgt := 186) C d_Mod_join_178 rfl (fun c178 => ?_) (fun c178 => ?_)
          · skip
            refine j_iconst (pc := 186) (v := nI 1) C d_Mod_join_186 (by decide) ?_
            refine j_goto (pc := 187) (tgt := 191) C d_Mod_join_187 rfl ?_
            refine j_put (pc := 191) (ws' := [(o, .inr (6, mo a sz le ib (nI cnt) pl at_ wr wh (nI 1))), (a 12, .inl (aI g, 416, .inl (nf v))), (a 13, .inl (aI g, 384, .inl (nf c))), (a 14, .inl (aI g, 32, .inl (nf rt))), (a 15, .inl (aI g, 2112, .inl (nf Q1))), (a 16, .inl (aI g, 32, .inl (nf D))), (a 17, .inl (aJ g, 64, .inr (.inl (lf64 (bn cK))))), (a 18, .inl (aJ g, 8, .inr (.inl (lf64 (bn cH))))), (a 19, .inl (aJ g, 64, .inr (.inl (lf64 (bn W))))), (a 20, .inl (aJ g, 8, .inr (.inl (lf64 (bn H))))), (a 22, .inl (aJ g, 10, .inr (.inl (lf64 Y))))]) C Fp_Mod_133 0 rfl (by first | rfl | decide) (by first | rfl | decide) (Nat.le_of_ble_eq_true rfl) rfl d_Mod_join_191 ?_
            refine j_aload_n (pc := 194) C d_Mod_join_194 rfl 0 rfl ?_
            refine j_bipush (pc := 195) (v := nI 64) C d_Mod_join_195 (by decide) ?_
            refine j_callV (pc := 197) (As := [.int (nI 64)]) (rest := []) (wc := [(o, .inr (6, mo a sz le ib (nI cnt) pl at_ wr wh (nI 1))), (a 15, .inl (aI g, 2112, .inl (nf Q1))), (a 16, .inl (aI g, 32, .inl (nf D))), (a 17, .inl (aJ g, 64, .inr (.inl (lf64 (bn cK))))), (a 18, .inl (aJ g, 8, .inr (.inl (lf64 (bn cH))))), (a 19, .inl (aJ g, 64, .inr (.inl (lf64 (bn W))))), (a 20, .inl (aJ g, 8, .inr (.inl (lf64 (bn H))))), (a 22, .inl (aJ g, 10, .inr (.inl (lf64 Y))))]) (wr := [(a 12, .inl (aI g, 416, .inl (nf v))), (a 13, .inl (aI g, 384, .inl (nf c))), (a 14, .inl (aI g, 32, .inl (nf rt)))]) C (c_Mod_twice (kl κ) g o a 64 Q1 D W H Y sz le ib (nI cnt) pl at_ wr wh (nI 1) (by omega) (hQ2) (hD)) Y_Mod_twice ml_Mod_124 im_Mod_twice sl_Mod_twice rfl ⟨by decide, by decide⟩ rfl (ci := 6) (q0 := 0) rfl rfl rfl (Nat.le_of_ble_eq_true rfl) (j_sb [0, 4, 5, 6, 7, 8, 9, 10, 1, 2, 3] rfl rfl) rfl d_Mod_join_197 (fun r w1 hO => ?_)
            obtain ⟨Q6, D6, W6, H6, Y6, rfl, rfl, hQ6, hD6, hN6⟩ := hO
            show j_V g κ 0 0 200 [(0, .ref o), (1, .int (nI m)), (2, .int (nI (2 * p))), (3, .int (nI (2 * p))), (4, .int (nI 0)), (5, .int (nI 32))] [] ([(o, .inr (6, mo a sz le ib (nI cnt) pl at_ wr wh (nI 1))), (a 15, .inl (aI g, 2112, .inl (nf Q6))), (a 16, .inl (aI g, 32, .inl (nf D6))), (a 17, .inl (aJ g, 64, .inr (.inl (lf64 (bn cK))))), (a 18, .inl (aJ g, 8, .inr (.inl (lf64 (bn cH))))), (a 19, .inl (aJ g, 64, .inr (.inl (lf64 (bn W6))))), (a 20, .inl (aJ g, 8, .inr (.inl (lf64 (bn H6))))), (a 22, .inl (aJ g, 10, .inr (.inl (lf64 Y6)))), (a 12, .inl (aI g, 416, .inl (nf v))), (a 13, .inl (aI g, 384, .inl (nf c))), (a 14, .inl (aI g, 32, .inl (nf rt)))])
            refine j_iconst (pc := 200) (v := nI 0) C d_Mod_join_200 (by decide) ?_
            refine j_istore (pc := 201) (lv' := [(5, .int (nI 0)), (0, .ref o), (1, .int (nI m)), (2, .int (nI (2 * p))), (3, .int (nI (2 * p))), (4, .int (nI 0))]) C d_Mod_join_201 (by decide) rfl ?_
            refine j_lv (lv' := [(0, .ref o), (1, .int (nI m)), (2, .int (nI (2 * p))), (5, .int (nI 0))]) [1, 2, 3, 0] rfl ?_
            refine j_sub (ws' := [(o, .inr (6, mo a sz le ib (nI cnt) pl at_ wr wh (nI 1))), (a 12, .inl (aI g, 416, .inl (nf v))), (a 13, .inl (aI g, 384, .inl (nf c))), (a 14, .inl (aI g, 32, .inl (nf rt))), (a 15, .inl (aI g, 2112, .inl (nf Q6))), (a 16, .inl (aI g, 32, .inl (nf D6))), (a 17, .inl (aJ g, 64, .inr (.inl (lf64 (bn cK))))), (a 18, .inl (aJ g, 8, .inr (.inl (lf64 (bn cH))))), (a 19, .inl (aJ g, 64, .inr (.inl (lf64 (bn W6))))), (a 20, .inl (aJ g, 8, .inr (.inl (lf64 (bn H6))))), (a 22, .inl (aJ g, 10, .inr (.inl (lf64 Y6))))]) (j_sb [0, 8, 9, 10, 1, 2, 3, 4, 5, 6, 7] rfl rfl) ?_
            have e9 := lp_j3 (o := o) (cnt := cnt) (a := a) (v := v) (rt := rt) (sz := sz) (le := le) (ib := ib) (pl := pl) (at_ := at_) (wr := wr) (wh := wh) (m := m) (p := p) (c := c) (s := nm Q1 64) (Q := Q6) (D := D6) (W := W6) (H := H6) (Y := Y6) (db := nI 1) (by omega) hN6 ?_ C 33 0 (by omega) (by omega)
            rw [putF_0] at e9
            exact e9
            show j_V g κ 0 0 235 [(0, .ref o), (1, .int (nI m)), (2, .int (nI (2 * p)))] [] ([(o, .inr (6, mo a sz le ib (nI cnt) pl at_ wr wh (nI 1))), (a 12, .inl (aI g, 416, .inl (nf v))), (a 13, .inl (aI g, 384, .inl (nf (putF c (16 * (2 * p)) 32 (nm Q1 64))))), (a 14, .inl (aI g, 32, .inl (nf rt))), (a 15, .inl (aI g, 2112, .inl (nf Q6))), (a 16, .inl (aI g, 32, .inl (nf D6))), (a 17, .inl (aJ g, 64, .inr (.inl (lf64 (bn cK))))), (a 18, .inl (aJ g, 8, .inr (.inl (lf64 (bn cH))))), (a 19, .inl (aJ g, 64, .inr (.inl (lf64 (bn W6))))), (a 20, .inl (aJ g, 8, .inr (.inl (lf64 (bn H6))))), (a 22, .inl (aJ g, 10, .inr (.inl (lf64 Y6))))])
            refine j_iload_n (pc := 235) C d_Mod_join_235 rfl 2 rfl ?_
            refine j_iconst (pc := 236) (v := nI 2) C d_Mod_join_236 (by decide) ?_
            refine j_iaddN (pc := 237) C d_Mod_join_237 ?_
            refine j_istore_n (pc := 238) (lv' := [(2, .int (nI ((2 * p) + 2))), (0, .ref o), (1, .int (nI m))]) C d_Mod_join_238 rfl (by decide) rfl ?_
            refine j_goto (pc := 239) (tgt := 45) C d_Mod_join_239 rfl ?_
            refine j_lv (lv' := [(0, .ref o), (1, .int (nI m)), (2, .int (nI ((2 * p) + 2)))]) [1, 2, 0] rfl ?_
            exact ih (p + 1) _ true Q6 D6 W6 H6 Y6 (by omega) (by omega) (RInv_put2 (by omega) hI hpr) (by rw [← dq_s hd hx]; first | (rw [c178]; rfl) | (rw [c183, Bool.or_true]) | (rw [Bool.eq_false_iff.mpr c178, Bool.eq_false_iff.mpr c183]; rfl) | (rw [Bool.eq_false_iff.mpr c178]; rfl)) hQ6 hD6
          · skip
            refine j_iload (pc := 181) C d_Mod_join_181 4 rfl ?_
            refine j_if_eqN (pc := 183) (tgt := 190) C (by omega) d_Mod_join_183 rfl (fun c183 => ?_) (fun c183 => ?_)
            · skip
              refine j_iconst (pc := 190) (v := nI 0) C d_Mod_join_190 (by decide) ?_
              refine j_put (pc := 191) (ws' := [(o, .inr (6, mo a sz le ib (nI cnt) pl at_ wr wh (nI 0))), (a 12, .inl (aI g, 416, .inl (nf v))), (a 13, .inl (aI g, 384, .inl (nf c))), (a 14, .inl (aI g, 32, .inl (nf rt))), (a 15, .inl (aI g, 2112, .inl (nf Q1))), (a 16, .inl (aI g, 32, .inl (nf D))), (a 17, .inl (aJ g, 64, .inr (.inl (lf64 (bn cK))))), (a 18, .inl (aJ g, 8, .inr (.inl (lf64 (bn cH))))), (a 19, .inl (aJ g, 64, .inr (.inl (lf64 (bn W))))), (a 20, .inl (aJ g, 8, .inr (.inl (lf64 (bn H))))), (a 22, .inl (aJ g, 10, .inr (.inl (lf64 Y))))]) C Fp_Mod_133 0 rfl (by first | rfl | decide) (by first | rfl | decide) (Nat.le_of_ble_eq_true rfl) rfl d_Mod_join_191 ?_
              refine j_aload_n (pc := 194) C d_Mod_join_194 rfl 0 rfl ?_
              refine j_bipush (pc := 195) (v := nI 64) C d_Mod_join_195 (by decide) ?_
              refine j_callV (pc := 197) (As := [.int (nI 64)]) (rest := []) (wc := [(o, .inr (6, mo a sz le ib (nI cnt) pl at_ wr wh (nI 0))), (a 15, .inl (aI g, 2112, .inl (nf Q1))), (a 16, .inl (aI g, 32, .inl (nf D))), (a 17, .inl (aJ g, 64, .inr (.inl (lf64 (bn cK))))), (a 18, .inl (aJ g, 8, .inr (.inl (lf64 (bn cH))))), (a 19, .inl (aJ g, 64, .inr (.inl (lf64 (bn W))))), (a 20, .inl (aJ g, 8, .inr (.inl (lf64 (bn H))))), (a 22, .inl (aJ g, 10, .inr (.inl (lf64 Y))))]) (wr := [(a 12, .inl (aI g, 416, .inl (nf v))), (a 13, .inl (aI g, 384, .inl (nf c))), (a 14, .inl (aI g, 32, .inl (nf rt)))]) C (c_Mod_twice (kl κ) g o a 64 Q1 D W H Y sz le ib (nI cnt) pl at_ wr wh (nI 0) (by omega) (hQ2) (hD)) Y_Mod_twice ml_Mod_124 im_Mod_twice sl_Mod_twice rfl ⟨by decide, by decide⟩ rfl (ci := 6) (q0 := 0) rfl rfl rfl (Nat.le_of_ble_eq_true rfl) (j_sb [0, 4, 5, 6, 7, 8, 9, 10, 1, 2, 3] rfl rfl) rfl d_Mod_join_197 (fun r w1 hO => ?_)
              obtain ⟨Q6, D6, W6, H6, Y6, rfl, rfl, hQ6, hD6, hN6⟩ := hO
              show j_V g κ 0 0 200 [(0, .ref o), (1, .int (nI m)), (2, .int (nI (2 * p))), (3, .int (nI (2 * p))), (4, .int (nI 0)), (5, .int (nI 32))] [] ([(o, .inr (6, mo a sz le ib (nI cnt) pl at_ wr wh (nI 0))), (a 15, .inl (aI g, 2112, .inl (nf Q6))), (a 16, .inl (aI g, 32, .inl (nf D6))), (a 17, .inl (aJ g, 64, .inr (.inl (lf64 (bn cK))))), (a 18, .inl (aJ g, 8, .inr (.inl (lf64 (bn cH))))), (a 19, .inl (aJ g, 64, .inr (.inl (lf64 (bn W6))))), (a 20, .inl (aJ g, 8, .inr (.inl (lf64 (bn H6))))), (a 22, .inl (aJ g, 10, .inr (.inl (lf64 Y6)))), (a 12, .inl (aI g, 416, .inl (nf v))), (a 13, .inl (aI g, 384, .inl (nf c))), (a 14, .inl (aI g, 32, .inl (nf rt)))])
              refine j_iconst (pc := 200) (v := nI 0) C d_Mod_join_200 (by decide) ?_
              refine j_istore (pc := 201) (lv' := [(5, .int (nI 0)), (0, .ref o), (1, .int (nI m)), (2, .int (nI (2 * p))), (3, .int (nI (2 * p))), (4, .int (nI 0))]) C d_Mod_join_201 (by decide) rfl ?_
              refine j_lv (lv' := [(0, .ref o), (1, .int (nI m)), (2, .int (nI (2 * p))), (5, .int (nI 0))]) [1, 2, 3, 0] rfl ?_
              refine j_sub (ws' := [(o, .inr (6, mo a sz le ib (nI cnt) pl at_ wr wh (nI 0))), (a 12, .inl (aI g, 416, .inl (nf v))), (a 13, .inl (aI g, 384, .inl (nf c))), (a 14, .inl (aI g, 32, .inl (nf rt))), (a 15, .inl (aI g, 2112, .inl (nf Q6))), (a 16, .inl (aI g, 32, .inl (nf D6))), (a 17, .inl (aJ g, 64, .inr (.inl (lf64 (bn cK))))), (a 18, .inl (aJ g, 8, .inr (.inl (lf64 (bn cH))))), (a 19, .inl (aJ g, 64, .inr (.inl (lf64 (bn W6))))), (a 20, .inl (aJ g, 8, .inr (.inl (lf64 (bn H6))))), (a 22, .inl (aJ g, 10, .inr (.inl (lf64 Y6))))]) (j_sb [0, 8, 9, 10, 1, 2, 3, 4, 5, 6, 7] rfl rfl) ?_
              have e9 := lp_j3 (o := o) (cnt := cnt) (a := a) (v := v) (rt := rt) (sz := sz) (le := le) (ib := ib) (pl := pl) (at_ := at_) (wr := wr) (wh := wh) (m := m) (p := p) (c := c) (s := nm Q1 64) (Q := Q6) (D := D6) (W := W6) (H := H6) (Y := Y6) (db := nI 0) (by omega) hN6 ?_ C 33 0 (by omega) (by omega)
              rw [putF_0] at e9
              exact e9
              show j_V g κ 0 0 235 [(0, .ref o), (1, .int (nI m)), (2, .int (nI (2 * p)))] [] ([(o, .inr (6, mo a sz le ib (nI cnt) pl at_ wr wh (nI 0))), (a 12, .inl (aI g, 416, .inl (nf v))), (a 13, .inl (aI g, 384, .inl (nf (putF c (16 * (2 * p)) 32 (nm Q1 64))))), (a 14, .inl (aI g, 32, .inl (nf rt))), (a 15, .inl (aI g, 2112, .inl (nf Q6))), (a 16, .inl (aI g, 32, .inl (nf D6))), (a 17, .inl (aJ g, 64, .inr (.inl (lf64 (bn cK))))), (a 18, .inl (aJ g, 8, .inr (.inl (lf64 (bn cH))))), (a 19, .inl (aJ g, 64, .inr (.inl (lf64 (bn W6))))), (a 20, .inl (aJ g, 8, .inr (.inl (lf64 (bn H6))))), (a 22, .inl (aJ g, 10, .inr (.inl (lf64 Y6))))])
              refine j_iload_n (pc := 235) C d_Mod_join_235 rfl 2 rfl ?_
              refine j_iconst (pc := 236) (v := nI 2) C d_Mod_join_236 (by decide) ?_
              refine j_iaddN (pc := 237) C d_Mod_join_237 ?_
              refine j_istore_n (pc := 238) (lv' := [(2, .int (nI ((2 * p) + 2))), (0, .ref o), (1, .int (nI m))]) C d_Mod_join_238 rfl (by decide) rfl ?_
              refine j_goto (pc := 239) (tgt := 45) C d_Mod_join_239 rfl ?_
              refine j_lv (lv' := [(0, .ref o), (1, .int (nI m)), (2, .int (nI ((2 * p) + 2)))]) [1, 2, 0] rfl ?_
              exact ih (p + 1) _ false Q6 D6 W6 H6 Y6 (by omega) (by omega) (RInv_put2 (by omega) hI hpr) (by rw [← dq_s hd hx]; first | (rw [c178]; rfl) | (rw [c183, Bool.or_true]) | (rw [Bool.eq_false_iff.mpr c178, Bool.eq_false_iff.mpr c183]; rfl) | (rw [Bool.eq_false_iff.mpr c178]; rfl)) hQ6 hD6
            · exfalso; omega
        · skip
          exfalso; omega
      · skip
        refine j_iload_n (pc := 57) C d_Mod_join_57 rfl 2 rfl ?_
        refine j_iconst (pc := 58) (v := nI 1) C d_Mod_join_58 (by decide) ?_
        refine j_iaddN (pc := 59) C d_Mod_join_59 ?_
        refine j_goto (pc := 60) (tgt := 64) C d_Mod_join_60 rfl ?_
        refine j_istore_n (pc := 64) (lv' := [(3, .int (nI ((2 * p) + 1))), (0, .ref o), (1, .int (nI m)), (2, .int (nI (2 * p)))]) C d_Mod_join_64 rfl (by decide) rfl ?_
        refine j_iload_n (pc := 65) C d_Mod_join_65 rfl 0 rfl ?_
        refine j_iload_n (pc := 66) C d_Mod_join_66 rfl 3 rfl ?_
        refine j_icmp_leN (pc := 67) (tgt := 74) C (by omega) (by omega) d_Mod_join_67 rfl (fun c67 => ?_) (fun c67 => ?_)
        · skip
          exfalso; omega
        · skip
          refine j_iconst (pc := 70) (v := nI 1) C d_Mod_join_70 (by decide) ?_
          refine j_goto (pc := 71) (tgt := 75) C d_Mod_join_71 rfl ?_
          refine j_istore (pc := 75) (lv' := [(4, .int (nI 1)), (3, .int (nI ((2 * p) + 1))), (0, .ref o), (1, .int (nI m)), (2, .int (nI (2 * p)))]) C d_Mod_join_75 (by decide) rfl ?_
          refine j_iconst (pc := 77) (v := nI 0) C d_Mod_join_77 (by decide) ?_
          refine j_istore (pc := 78) (lv' := [(5, .int (nI 0)), (4, .int (nI 1)), (3, .int (nI ((2 * p) + 1))), (0, .ref o), (1, .int (nI m)), (2, .int (nI (2 * p)))]) C d_Mod_join_78 (by decide) rfl ?_
          refine j_lv (lv' := [(0, .ref o), (1, .int (nI m)), (2, .int (nI (2 * p))), (3, .int (nI ((2 * p) + 1))), (4, .int (nI 1)), (5, .int (nI 0))]) [3, 4, 5, 2, 1, 0] rfl ?_
          refine lp_j2_1 (o := o) (cnt := cnt) (a := a) (v := v) (rt := rt) (sz := sz) (le := le) (ib := ib) (pl := pl) (at_ := at_) (wr := wr) (wh := wh) (m := m) (p := p) (c := c) (d := d) (D := D) (W := W) (H := H) (Y := Y) hm c54 hI.2.2 (fun Q1 fl hQ1 hQ2 hf => ?_) C 33 0 Q true (by omega) (by omega) (fun j hj => absurd hj (by omega)) hQ ⟨fun _ j hj => absurd hj (by omega), fun _ => rfl⟩
          have hx := fl_alk (fl := fl) c54 hI hf
          have hpr := pr_two c54 hI hQ1
          show j_V g κ 0 0 173 [(0, .ref o), (1, .int (nI m)), (2, .int (nI (2 * p))), (3, .int (nI ((2 * p) + 1))), (4, .int (if fl = true then (1 : Int32) else 0)), (5, .int (nI 32))] [] ([(o, .inr (6, mo a sz le ib (nI cnt) pl at_ wr wh (if d = true then (1 : Int32) else 0))), (a 12, .inl (aI g, 416, .inl (nf v))), (a 13, .inl (aI g, 384, .inl (nf c))), (a 14, .inl (aI g, 32, .inl (nf rt))), (a 15, .inl (aI g, 2112, .inl (nf Q1))), (a 16, .inl (aI g, 32, .inl (nf D))), (a 17, .inl (aJ g, 64, .inr (.inl (lf64 (bn cK))))), (a 18, .inl (aJ g, 8, .inr (.inl (lf64 (bn cH))))), (a 19, .inl (aJ g, 64, .inr (.inl (lf64 (bn W))))), (a 20, .inl (aJ g, 8, .inr (.inl (lf64 (bn H))))), (a 22, .inl (aJ g, 10, .inr (.inl (lf64 Y))))])
          refine j_aload_n (pc := 173) C d_Mod_join_173 rfl 0 rfl ?_
          refine j_aload_n (pc := 174) C d_Mod_join_174 rfl 0 rfl ?_
          refine j_get (pc := 175) C F_Mod_133 0 rfl rfl d_Mod_join_175 ?_
          refine j_if_neB (pc := 178) (tgt := 186) C d_Mod_join_178 rfl (fun c178 => ?_) (fun c178 => ?_)
          · skip
            refine j_iconst (pc := 186) (v := nI 1) C d_Mod_join_186 (by decide) ?_
            refine j_goto (pc := 187) (tgt := 191) C d_Mod_join_187 rfl ?_
            refine j_put (pc := 191) (ws' := [(o, .inr (6, mo a sz le ib (nI cnt) pl at_ wr wh (nI 1))), (a 12, .inl (aI g, 416, .inl (nf v))), (a 13, .inl (aI g, 384, .inl (nf c))), (a 14, .inl (aI g, 32, .inl (nf rt))), (a 15, .inl (aI g, 2112, .inl (nf Q1))), (a 16, .inl (aI g, 32, .inl (nf D))), (a 17, .inl (aJ g, 64, .inr (.inl (lf64 (bn cK))))), (a 18, .inl (aJ g, 8, .inr (.inl (lf64 (bn cH))))), (a 19, .inl (aJ g, 64, .inr (.inl (lf64 (bn W))))), (a 20, .inl (aJ g, 8, .inr (.inl (lf64 (bn H))))), (a 22, .inl (aJ g, 10, .inr (.inl (lf64 Y))))]) C Fp_Mod_133 0 rfl (by first | rfl | decide) (by first | rfl | decide) (Nat.le_of_ble_eq_true rfl) rfl d_Mod_join_191 ?_
            refine j_aload_n (pc := 194) C d_Mod_join_194 rfl 0 rfl ?_
            refine j_bipush (pc := 195) (v := nI 64) C d_Mod_join_195 (by decide) ?_
            refine j_callV (pc := 197) (As := [.int (nI 64)]) (rest := []) (wc := [(o, .inr (6, mo a sz le ib (nI cnt) pl at_ wr wh (nI 1))), (a 15, .inl (aI g, 2112, .inl (nf Q1))), (a 16, .inl (aI g, 32, .inl (nf D))), (a 17, .inl (aJ g, 64, .inr (.inl (lf64 (bn cK))))), (a 18, .inl (aJ g, 8, .inr (.inl (lf64 (bn cH))))), (a 19, .inl (aJ g, 64, .inr (.inl (lf64 (bn W))))), (a 20, .inl (aJ g, 8, .inr (.inl (lf64 (bn H))))), (a 22, .inl (aJ g, 10, .inr (.inl (lf64 Y))))]) (wr := [(a 12, .inl (aI g, 416, .inl (nf v))), (a 13, .inl (aI g, 384, .inl (nf c))), (a 14, .inl (aI g, 32, .inl (nf rt)))]) C (c_Mod_twice (kl κ) g o a 64 Q1 D W H Y sz le ib (nI cnt) pl at_ wr wh (nI 1) (by omega) (hQ2) (hD)) Y_Mod_twice ml_Mod_124 im_Mod_twice sl_Mod_twice rfl ⟨by decide, by decide⟩ rfl (ci := 6) (q0 := 0) rfl rfl rfl (Nat.le_of_ble_eq_true rfl) (j_sb [0, 4, 5, 6, 7, 8, 9, 10, 1, 2, 3] rfl rfl) rfl d_Mod_join_197 (fun r w1 hO => ?_)
            obtain ⟨Q6, D6, W6, H6, Y6, rfl, rfl, hQ6, hD6, hN6⟩ := hO
            show j_V g κ 0 0 200 [(0, .ref o), (1, .int (nI m)), (2, .int (nI (2 * p))), (3, .int (nI ((2 * p) + 1))), (4, .int (if fl = true then (1 : Int32) else 0)), (5, .int (nI 32))] [] ([(o, .inr (6, mo a sz le ib (nI cnt) pl at_ wr wh (nI 1))), (a 15, .inl (aI g, 2112, .inl (nf Q6))), (a 16, .inl (aI g, 32, .inl (nf D6))), (a 17, .inl (aJ g, 64, .inr (.inl (lf64 (bn cK))))), (a 18, .inl (aJ g, 8, .inr (.inl (lf64 (bn cH))))), (a 19, .inl (aJ g, 64, .inr (.inl (lf64 (bn W6))))), (a 20, .inl (aJ g, 8, .inr (.inl (lf64 (bn H6))))), (a 22, .inl (aJ g, 10, .inr (.inl (lf64 Y6)))), (a 12, .inl (aI g, 416, .inl (nf v))), (a 13, .inl (aI g, 384, .inl (nf c))), (a 14, .inl (aI g, 32, .inl (nf rt)))])
            refine j_iconst (pc := 200) (v := nI 0) C d_Mod_join_200 (by decide) ?_
            refine j_istore (pc := 201) (lv' := [(5, .int (nI 0)), (0, .ref o), (1, .int (nI m)), (2, .int (nI (2 * p))), (3, .int (nI ((2 * p) + 1))), (4, .int (if fl = true then (1 : Int32) else 0))]) C d_Mod_join_201 (by decide) rfl ?_
            refine j_lv (lv' := [(0, .ref o), (1, .int (nI m)), (2, .int (nI (2 * p))), (5, .int (nI 0))]) [1, 2, 3, 0] rfl ?_
            refine j_sub (ws' := [(o, .inr (6, mo a sz le ib (nI cnt) pl at_ wr wh (nI 1))), (a 12, .inl (aI g, 416, .inl (nf v))), (a 13, .inl (aI g, 384, .inl (nf c))), (a 14, .inl (aI g, 32, .inl (nf rt))), (a 15, .inl (aI g, 2112, .inl (nf Q6))), (a 16, .inl (aI g, 32, .inl (nf D6))), (a 17, .inl (aJ g, 64, .inr (.inl (lf64 (bn cK))))), (a 18, .inl (aJ g, 8, .inr (.inl (lf64 (bn cH))))), (a 19, .inl (aJ g, 64, .inr (.inl (lf64 (bn W6))))), (a 20, .inl (aJ g, 8, .inr (.inl (lf64 (bn H6))))), (a 22, .inl (aJ g, 10, .inr (.inl (lf64 Y6))))]) (j_sb [0, 8, 9, 10, 1, 2, 3, 4, 5, 6, 7] rfl rfl) ?_
            have e9 := lp_j3 (o := o) (cnt := cnt) (a := a) (v := v) (rt := rt) (sz := sz) (le := le) (ib := ib) (pl := pl) (at_ := at_) (wr := wr) (wh := wh) (m := m) (p := p) (c := c) (s := nm Q1 64) (Q := Q6) (D := D6) (W := W6) (H := H6) (Y := Y6) (db := nI 1) (by omega) hN6 ?_ C 33 0 (by omega) (by omega)
            rw [putF_0] at e9
            exact e9
            show j_V g κ 0 0 235 [(0, .ref o), (1, .int (nI m)), (2, .int (nI (2 * p)))] [] ([(o, .inr (6, mo a sz le ib (nI cnt) pl at_ wr wh (nI 1))), (a 12, .inl (aI g, 416, .inl (nf v))), (a 13, .inl (aI g, 384, .inl (nf (putF c (16 * (2 * p)) 32 (nm Q1 64))))), (a 14, .inl (aI g, 32, .inl (nf rt))), (a 15, .inl (aI g, 2112, .inl (nf Q6))), (a 16, .inl (aI g, 32, .inl (nf D6))), (a 17, .inl (aJ g, 64, .inr (.inl (lf64 (bn cK))))), (a 18, .inl (aJ g, 8, .inr (.inl (lf64 (bn cH))))), (a 19, .inl (aJ g, 64, .inr (.inl (lf64 (bn W6))))), (a 20, .inl (aJ g, 8, .inr (.inl (lf64 (bn H6))))), (a 22, .inl (aJ g, 10, .inr (.inl (lf64 Y6))))])
            refine j_iload_n (pc := 235) C d_Mod_join_235 rfl 2 rfl ?_
            refine j_iconst (pc := 236) (v := nI 2) C d_Mod_join_236 (by decide) ?_
            refine j_iaddN (pc := 237) C d_Mod_join_237 ?_
            refine j_istore_n (pc := 238) (lv' := [(2, .int (nI ((2 * p) + 2))), (0, .ref o), (1, .int (nI m))]) C d_Mod_join_238 rfl (by decide) rfl ?_
            refine j_goto (pc := 239) (tgt := 45) C d_Mod_join_239 rfl ?_
            refine j_lv (lv' := [(0, .ref o), (1, .int (nI m)), (2, .int (nI ((2 * p) + 2)))]) [1, 2, 0] rfl ?_
            exact ih (p + 1) _ true Q6 D6 W6 H6 Y6 (by omega) (by omega) (RInv_put2 (by omega) hI hpr) (by rw [← dq_s hd hx]; first | (rw [c178]; rfl) | (rw [c183, Bool.or_true]) | (rw [Bool.eq_false_iff.mpr c178, Bool.eq_false_iff.mpr c183]; rfl) | (rw [Bool.eq_false_iff.mpr c178]; rfl)) hQ6 hD6
          · skip
            refine j_iload (pc := 181) C d_Mod_join_181 4 rfl ?_
            refine j_if_eqB (pc := 183) (tgt := 190) C d_Mod_join_183 rfl (fun c183 => ?_) (fun c183 => ?_)
            · skip
              refine j_iconst (pc := 190) (v := nI 0) C d_Mod_join_190 (by decide) ?_
              refine j_put (pc := 191) (ws' := [(o, .inr (6, mo a sz le ib (nI cnt) pl at_ wr wh (nI 0))), (a 12, .inl (aI g, 416, .inl (nf v))), (a 13, .inl (aI g, 384, .inl (nf c))), (a 14, .inl (aI g, 32, .inl (nf rt))), (a 15, .inl (aI g, 2112, .inl (nf Q1))), (a 16, .inl (aI g, 32, .inl (nf D))), (a 17, .inl (aJ g, 64, .inr (.inl (lf64 (bn cK))))), (a 18, .inl (aJ g, 8, .inr (.inl (lf64 (bn cH))))), (a 19, .inl (aJ g, 64, .inr (.inl (lf64 (bn W))))), (a 20, .inl (aJ g, 8, .inr (.inl (lf64 (bn H))))), (a 22, .inl (aJ g, 10, .inr (.inl (lf64 Y))))]) C Fp_Mod_133 0 rfl (by first | rfl | decide) (by first | rfl | decide) (Nat.le_of_ble_eq_true rfl) rfl d_Mod_join_191 ?_
              refine j_aload_n (pc := 194) C d_Mod_join_194 rfl 0 rfl ?_
              refine j_bipush (pc := 195) (v := nI 64) C d_Mod_join_195 (by decide) ?_
              refine j_callV (pc := 197) (As := [.int (nI 64)]) (rest := []) (wc := [(o, .inr (6, mo a sz le ib (nI cnt) pl at_ wr wh (nI 0))), (a 15, .inl (aI g, 2112, .inl (nf Q1))), (a 16, .inl (aI g, 32, .inl (nf D))), (a 17, .inl (aJ g, 64, .inr (.inl (lf64 (bn cK))))), (a 18, .inl (aJ g, 8, .inr (.inl (lf64 (bn cH))))), (a 19, .inl (aJ g, 64, .inr (.inl (lf64 (bn W))))), (a 20, .inl (aJ g, 8, .inr (.inl (lf64 (bn H))))), (a 22, .inl (aJ g, 10, .inr (.inl (lf64 Y))))]) (wr := [(a 12, .inl (aI g, 416, .inl (nf v))), (a 13, .inl (aI g, 384, .inl (nf c))), (a 14, .inl (aI g, 32, .inl (nf rt)))]) C (c_Mod_twice (kl κ) g o a 64 Q1 D W H Y sz le ib (nI cnt) pl at_ wr wh (nI 0) (by omega) (hQ2) (hD)) Y_Mod_twice ml_Mod_124 im_Mod_twice sl_Mod_twice rfl ⟨by decide, by decide⟩ rfl (ci := 6) (q0 := 0) rfl rfl rfl (Nat.le_of_ble_eq_true rfl) (j_sb [0, 4, 5, 6, 7, 8, 9, 10, 1, 2, 3] rfl rfl) rfl d_Mod_join_197 (fun r w1 hO => ?_)
              obtain ⟨Q6, D6, W6, H6, Y6, rfl, rfl, hQ6, hD6, hN6⟩ := hO
              show j_V g κ 0 0 200 [(0, .ref o), (1, .int (nI m)), (2, .int (nI (2 * p))), (3, .int (nI ((2 * p) + 1))), (4, .int (if fl = true then (1 : Int32) else 0)), (5, .int (nI 32))] [] ([(o, .inr (6, mo a sz le ib (nI cnt) pl at_ wr wh (nI 0))), (a 15, .inl (aI g, 2112, .inl (nf Q6))), (a 16, .inl (aI g, 32, .inl (nf D6))), (a 17, .inl (aJ g, 64, .inr (.inl (lf64 (bn cK))))), (a 18, .inl (aJ g, 8, .inr (.inl (lf64 (bn cH))))), (a 19, .inl (aJ g, 64, .inr (.inl (lf64 (bn W6))))), (a 20, .inl (aJ g, 8, .inr (.inl (lf64 (bn H6))))), (a 22, .inl (aJ g, 10, .inr (.inl (lf64 Y6)))), (a 12, .inl (aI g, 416, .inl (nf v))), (a 13, .inl (aI g, 384, .inl (nf c))), (a 14, .inl (aI g, 32, .inl (nf rt)))])
              refine j_iconst (pc := 200) (v := nI 0) C d_Mod_join_200 (by decide) ?_
              refine j_istore (pc := 201) (lv' := [(5, .int (nI 0)), (0, .ref o), (1, .int (nI m)), (2, .int (nI (2 * p))), (3, .int (nI ((2 * p) + 1))), (4, .int (if fl = true then (1 : Int32) else 0))]) C d_Mod_join_201 (by decide) rfl ?_
              refine j_lv (lv' := [(0, .ref o), (1, .int (nI m)), (2, .int (nI (2 * p))), (5, .int (nI 0))]) [1, 2, 3, 0] rfl ?_
              refine j_sub (ws' := [(o, .inr (6, mo a sz le ib (nI cnt) pl at_ wr wh (nI 0))), (a 12, .inl (aI g, 416, .inl (nf v))), (a 13, .inl (aI g, 384, .inl (nf c))), (a 14, .inl (aI g, 32, .inl (nf rt))), (a 15, .inl (aI g, 2112, .inl (nf Q6))), (a 16, .inl (aI g, 32, .inl (nf D6))), (a 17, .inl (aJ g, 64, .inr (.inl (lf64 (bn cK))))), (a 18, .inl (aJ g, 8, .inr (.inl (lf64 (bn cH))))), (a 19, .inl (aJ g, 64, .inr (.inl (lf64 (bn W6))))), (a 20, .inl (aJ g, 8, .inr (.inl (lf64 (bn H6))))), (a 22, .inl (aJ g, 10, .inr (.inl (lf64 Y6))))]) (j_sb [0, 8, 9, 10, 1, 2, 3, 4, 5, 6, 7] rfl rfl) ?_
              have e9 := lp_j3 (o := o) (cnt := cnt) (a := a) (v := v) (rt := rt) (sz := sz) (le := le) (ib := ib) (pl := pl) (at_ := at_) (wr := wr) (wh := wh) (m := m) (p := p) (c := c) (s := nm Q1 64) (Q := Q6) (D := D6) (W := W6) (H := H6) (Y := Y6) (db := nI 0) (by omega) hN6 ?_ C 33 0 (by omega) (by omega)
              rw [putF_0] at e9
              exact e9
              show j_V g κ 0 0 235 [(0, .ref o), (1, .int (nI m)), (2, .int (nI (2 * p)))] [] ([(o, .inr (6, mo a sz le ib (nI cnt) pl at_ wr wh (nI 0))), (a 12, .inl (aI g, 416, .inl (nf v))), (a 13, .inl (aI g, 384, .inl (nf (putF c (16 * (2 * p)) 32 (nm Q1 64))))), (a 14, .inl (aI g, 32, .inl (nf rt))), (a 15, .inl (aI g, 2112, .inl (nf Q6))), (a 16, .inl (aI g, 32, .inl (nf D6))), (a 17, .inl (aJ g, 64, .inr (.inl (lf64 (bn cK))))), (a 18, .inl (aJ g, 8, .inr (.inl (lf64 (bn cH))))), (a 19, .inl (aJ g, 64, .inr (.inl (lf64 (bn W6))))), (a 20, .inl (aJ g, 8, .inr (.inl (lf64 (bn H6))))), (a 22, .inl (aJ g, 10, .inr (.inl (lf64 Y6))))])
              refine j_iload_n (pc := 235) C d_Mod_join_235 rfl 2 rfl ?_
              refine j_iconst (pc := 236) (v := nI 2) C d_Mod_join_236 (by decide) ?_
              refine j_iaddN (pc := 237) C d_Mod_join_237 ?_
              refine j_istore_n (pc := 238) (lv' := [(2, .int (nI ((2 * p) + 2))), (0, .ref o), (1, .int (nI m))]) C d_Mod_join_238 rfl (by decide) rfl ?_
              refine j_goto (pc := 239) (tgt := 45) C d_Mod_join_239 rfl ?_
              refine j_lv (lv' := [(0, .ref o), (1, .int (nI m)), (2, .int (nI ((2 * p) + 2)))]) [1, 2, 0] rfl ?_
              exact ih (p + 1) _ false Q6 D6 W6 H6 Y6 (by omega) (by omega) (RInv_put2 (by omega) hI hpr) (by rw [← dq_s hd hx]; first | (rw [c178]; rfl) | (rw [c183, Bool.or_true]) | (rw [Bool.eq_false_iff.mpr c178, Bool.eq_false_iff.mpr c183]; rfl) | (rw [Bool.eq_false_iff.mpr c178]; rfl)) hQ6 hD6
            · skip
              refine j_iconst (pc := 186) (v := nI 1) C d_Mod_join_186 (by decide) ?_
              refine j_goto (pc := 187) (tgt := 191) C d_Mod_join_187 rfl ?_
              refine j_put (pc := 191) (ws' := [(o, .inr (6, mo a sz le ib (nI cnt) pl at_ wr wh (nI 1))), (a 12, .inl (aI g, 416, .inl (nf v))), (a 13, .inl (aI g, 384, .inl (nf c))), (a 14, .inl (aI g, 32, .inl (nf rt))), (a 15, .inl (aI g, 2112, .inl (nf Q1))), (a 16, .inl (aI g, 32, .inl (nf D))), (a 17, .inl (aJ g, 64, .inr (.inl (lf64 (bn cK))))), (a 18, .inl (aJ g, 8, .inr (.inl (lf64 (bn cH))))), (a 19, .inl (aJ g, 64, .inr (.inl (lf64 (bn W))))), (a 20, .inl (aJ g, 8, .inr (.inl (lf64 (bn H))))), (a 22, .inl (aJ g, 10, .inr (.inl (lf64 Y))))]) C Fp_Mod_133 0 rfl (by first | rfl | decide) (by first | rfl | decide) (Nat.le_of_ble_eq_true rfl) rfl d_Mod_join_191 ?_
              refine j_aload_n (pc := 194) C d_Mod_join_194 rfl 0 rfl ?_
              refine j_bipush (pc := 195) (v := nI 64) C d_Mod_join_195 (by decide) ?_
              refine j_callV (pc := 197) (As := [.int (nI 64)]) (rest := []) (wc := [(o, .inr (6, mo a sz le ib (nI cnt) pl at_ wr wh (nI 1))), (a 15, .inl (aI g, 2112, .inl (nf Q1))), (a 16, .inl (aI g, 32, .inl (nf D))), (a 17, .inl (aJ g, 64, .inr (.inl (lf64 (bn cK))))), (a 18, .inl (aJ g, 8, .inr (.inl (lf64 (bn cH))))), (a 19, .inl (aJ g, 64, .inr (.inl (lf64 (bn W))))), (a 20, .inl (aJ g, 8, .inr (.inl (lf64 (bn H))))), (a 22, .inl (aJ g, 10, .inr (.inl (lf64 Y))))]) (wr := [(a 12, .inl (aI g, 416, .inl (nf v))), (a 13, .inl (aI g, 384, .inl (nf c))), (a 14, .inl (aI g, 32, .inl (nf rt)))]) C (c_Mod_twice (kl κ) g o a 64 Q1 D W H Y sz le ib (nI cnt) pl at_ wr wh (nI 1) (by omega) (hQ2) (hD)) Y_Mod_twice ml_Mod_124 im_Mod_twice sl_Mod_twice rfl ⟨by decide, by decide⟩ rfl (ci := 6) (q0 := 0) rfl rfl rfl (Nat.le_of_ble_eq_true rfl) (j_sb [0, 4, 5, 6, 7, 8, 9, 10, 1, 2, 3] rfl rfl) rfl d_Mod_join_197 (fun r w1 hO => ?_)
              obtain ⟨Q6, D6, W6, H6, Y6, rfl, rfl, hQ6, hD6, hN6⟩ := hO
              show j_V g κ 0 0 200 [(0, .ref o), (1, .int (nI m)), (2, .int (nI (2 * p))), (3, .int (nI ((2 * p) + 1))), (4, .int (if fl = true then (1 : Int32) else 0)), (5, .int (nI 32))] [] ([(o, .inr (6, mo a sz le ib (nI cnt) pl at_ wr wh (nI 1))), (a 15, .inl (aI g, 2112, .inl (nf Q6))), (a 16, .inl (aI g, 32, .inl (nf D6))), (a 17, .inl (aJ g, 64, .inr (.inl (lf64 (bn cK))))), (a 18, .inl (aJ g, 8, .inr (.inl (lf64 (bn cH))))), (a 19, .inl (aJ g, 64, .inr (.inl (lf64 (bn W6))))), (a 20, .inl (aJ g, 8, .inr (.inl (lf64 (bn H6))))), (a 22, .inl (aJ g, 10, .inr (.inl (lf64 Y6)))), (a 12, .inl (aI g, 416, .inl (nf v))), (a 13, .inl (aI g, 384, .inl (nf c))), (a 14, .inl (aI g, 32, .inl (nf rt)))])
              refine j_iconst (pc := 200) (v := nI 0) C d_Mod_join_200 (by decide) ?_
              refine j_istore (pc := 201) (lv' := [(5, .int (nI 0)), (0, .ref o), (1, .int (nI m)), (2, .int (nI (2 * p))), (3, .int (nI ((2 * p) + 1))), (4, .int (if fl = true then (1 : Int32) else 0))]) C d_Mod_join_201 (by decide) rfl ?_
              refine j_lv (lv' := [(0, .ref o), (1, .int (nI m)), (2, .int (nI (2 * p))), (5, .int (nI 0))]) [1, 2, 3, 0] rfl ?_
              refine j_sub (ws' := [(o, .inr (6, mo a sz le ib (nI cnt) pl at_ wr wh (nI 1))), (a 12, .inl (aI g, 416, .inl (nf v))), (a 13, .inl (aI g, 384, .inl (nf c))), (a 14, .inl (aI g, 32, .inl (nf rt))), (a 15, .inl (aI g, 2112, .inl (nf Q6))), (a 16, .inl (aI g, 32, .inl (nf D6))), (a 17, .inl (aJ g, 64, .inr (.inl (lf64 (bn cK))))), (a 18, .inl (aJ g, 8, .inr (.inl (lf64 (bn cH))))), (a 19, .inl (aJ g, 64, .inr (.inl (lf64 (bn W6))))), (a 20, .inl (aJ g, 8, .inr (.inl (lf64 (bn H6))))), (a 22, .inl (aJ g, 10, .inr (.inl (lf64 Y6))))]) (j_sb [0, 8, 9, 10, 1, 2, 3, 4, 5, 6, 7] rfl rfl) ?_
              have e9 := lp_j3 (o := o) (cnt := cnt) (a := a) (v := v) (rt := rt) (sz := sz) (le := le) (ib := ib) (pl := pl) (at_ := at_) (wr := wr) (wh := wh) (m := m) (p := p) (c := c) (s := nm Q1 64) (Q := Q6) (D := D6) (W := W6) (H := H6) (Y := Y6) (db := nI 1) (by omega) hN6 ?_ C 33 0 (by omega) (by omega)
              rw [putF_0] at e9
              exact e9
              show j_V g κ 0 0 235 [(0, .ref o), (1, .int (nI m)), (2, .int (nI (2 * p)))] [] ([(o, .inr (6, mo a sz le ib (nI cnt) pl at_ wr wh (nI 1))), (a 12, .inl (aI g, 416, .inl (nf v))), (a 13, .inl (aI g, 384, .inl (nf (putF c (16 * (2 * p)) 32 (nm Q1 64))))), (a 14, .inl (aI g, 32, .inl (nf rt))), (a 15, .inl (aI g, 2112, .inl (nf Q6))), (a 16, .inl (aI g, 32, .inl (nf D6))), (a 17, .inl (aJ g, 64, .inr (.inl (lf64 (bn cK))))), (a 18, .inl (aJ g, 8, .inr (.inl (lf64 (bn cH))))), (a 19, .inl (aJ g, 64, .inr (.inl (lf64 (bn W6))))), (a 20, .inl (aJ g, 8, .inr (.inl (lf64 (bn H6))))), (a 22, .inl (aJ g, 10, .inr (.inl (lf64 Y6))))])
              refine j_iload_n (pc := 235) C d_Mod_join_235 rfl 2 rfl ?_
              refine j_iconst (pc := 236) (v := nI 2) C d_Mod_join_236 (by decide) ?_
              refine j_iaddN (pc := 237) C d_Mod_join_237 ?_
              refine j_istore_n (pc := 238) (lv' := [(2, .int (nI ((2 * p) + 2))), (0, .ref o), (1, .int (nI m))]) C d_Mod_join_238 rfl (by decide) rfl ?_
              refine j_goto (pc := 239) (tgt := 45) C d_Mod_join_239 rfl ?_
              refine j_lv (lv' := [(0, .ref o), (1, .int (nI m)), (2, .int (nI ((2 * p) + 2)))]) [1, 2, 0] rfl ?_
              exact ih (p + 1) _ true Q6 D6 W6 H6 Y6 (by omega) (by omega) (RInv_put2 (by omega) hI hpr) (by rw [← dq_s hd hx]; first | (rw [c178]; rfl) | (rw [c183, Bool.or_true]) | (rw [Bool.eq_false_iff.mpr c178, Bool.eq_false_iff.mpr c183]; rfl) | (rw [Bool.eq_false_iff.mpr c178]; rfl)) hQ6 hD6
set_option maxHeartbeats 4000000 in
set_option maxRecDepth 100000 in
theorem lp_j5 {g : JX} {κ : JK} {o cnt : Nat} {a : Nat → Nat} {v rt : Nat → Nat} {sz le ib pl at_ wr wh : Int32} (K : ∀ (m : Nat) (c : Nat → Nat) (d : Bool) (Q D : Nat → Nat) (W H : Nat → BW) (Y : Nat → Nat), m ≤ 1 → JI cnt m v c d → (∀ j, Q j < 256) → (∀ j, D j < 256) → j_V g κ 0 0 251 [(0, .ref o), (1, .int (nI m))] [] ([(o, .inr (6, mo a sz le ib (nI cnt) pl at_ wr wh (if d = true then (1 : Int32) else 0))), (a 12, .inl (aI g, 416, .inl (nf v))), (a 13, .inl (aI g, 384, .inl (nf c))), (a 14, .inl (aI g, 32, .inl (nf rt))), (a 15, .inl (aI g, 2112, .inl (nf Q))), (a 16, .inl (aI g, 32, .inl (nf D))), (a 17, .inl (aJ g, 64, .inr (.inl (lf64 (bn cK))))), (a 18, .inl (aJ g, 8, .inr (.inl (lf64 (bn cH))))), (a 19, .inl (aJ g, 64, .inr (.inl (lf64 (bn W))))), (a 20, .inl (aJ g, 8, .inr (.inl (lf64 (bn H))))), (a 22, .inl (aJ g, 10, .inr (.inl (lf64 Y))))])) (C : j_C g κ b_Mod_join R_Mod rm_Mod_join 6) : ∀ (k : Nat) (m : Nat) (c : Nat → Nat) (d : Bool) (Q D : Nat → Nat) (W H : Nat → BW) (Y : Nat → Nat), m ≤ 12 → m + 1 ≤ k → JI cnt m v c d → (∀ j, Q j < 256) → (∀ j, D j < 256) → j_V g κ (0) (0) 38 [(0, .ref o), (1, .int (nI m))] [] ([(o, .inr (6, mo a sz le ib (nI cnt) pl at_ wr wh (if d = true then (1 : Int32) else 0))), (a 12, .inl (aI g, 416, .inl (nf v))), (a 13, .inl (aI g, 384, .inl (nf c))), (a 14, .inl (aI g, 32, .inl (nf rt))), (a 15, .inl (aI g, 2112, .inl (nf Q))), (a 16, .inl (aI g, 32, .inl (nf D))), (a 17, .inl (aJ g, 64, .inr (.inl (lf64 (bn cK))))), (a 18, .inl (aJ g, 8, .inr (.inl (lf64 (bn cH))))), (a 19, .inl (aJ g, 64, .inr (.inl (lf64 (bn W))))), (a 20, .inl (aJ g, 8, .inr (.inl (lf64 (bn H))))), (a 22, .inl (aJ g, 10, .inr (.inl (lf64 Y))))]) := by
  intro k
  induction k with
  | zero =>
    intro m c d Q D W H Y hm hk hJ hQ hD
    exfalso; omega
  | succ k ih =>
    intro m c d Q D W H Y hm hk hJ hQ hD
    refine j_iload_n (pc := 38) C d_Mod_join_38 rfl 1 rfl ?_
    refine j_iconst (pc := 39) (v := nI 1) C d_Mod_join_39 (by decide) ?_
    refine j_icmp_leN (pc := 40) (tgt := 251) C (by omega) (by omega) d_Mod_join_40 rfl (fun c40 => ?_) (fun c40 => ?_)
    · skip
      exact j_lv [0, 1] rfl (K m c d Q D W H Y (by omega) hJ hQ hD)
    · skip
      refine j_iconst (pc := 43) (v := nI 0) C d_Mod_join_43 (by decide) ?_
      refine j_istore_n (pc := 44) (lv' := [(2, .int (nI 0)), (0, .ref o), (1, .int (nI m))]) C d_Mod_join_44 rfl (by decide) rfl ?_
      refine j_lv (lv' := [(0, .ref o), (1, .int (nI m)), (2, .int (nI 0))]) [1, 2, 0] rfl ?_
      refine lp_j4 (o := o) (cnt := cnt) (a := a) (v := v) (rt := rt) (sz := sz) (le := le) (ib := ib) (pl := pl) (at_ := at_) (wr := wr) (wh := wh) (m := m) (r := c) (d0 := d) (by omega) (fun p c1 d1 Q1 D1 W1 H1 Y1 hp hI hd hQ1 hD1 => ?_) C ((m + 1) / 2 + 1) 0 c d Q D W H Y (by omega) (by omega) (RInv_0 hJ.2.2.2) (Bool.or_false d).symm hQ hD
      subst hp
      show j_V g κ 0 0 242 [(0, .ref o), (1, .int (nI m)), (2, .int (nI (2 * ((m + 1) / 2))))] [] ([(o, .inr (6, mo a sz le ib (nI cnt) pl at_ wr wh (if d1 = true then (1 : Int32) else 0))), (a 12, .inl (aI g, 416, .inl (nf v))), (a 13, .inl (aI g, 384, .inl (nf c1))), (a 14, .inl (aI g, 32, .inl (nf rt))), (a 15, .inl (aI g, 2112, .inl (nf Q1))), (a 16, .inl (aI g, 32, .inl (nf D1))), (a 17, .inl (aJ g, 64, .inr (.inl (lf64 (bn cK))))), (a 18, .inl (aJ g, 8, .inr (.inl (lf64 (bn cH))))), (a 19, .inl (aJ g, 64, .inr (.inl (lf64 (bn W1))))), (a 20, .inl (aJ g, 8, .inr (.inl (lf64 (bn H1))))), (a 22, .inl (aJ g, 10, .inr (.inl (lf64 Y1))))])
      refine j_iload_n (pc := 242) C d_Mod_join_242 rfl 1 rfl ?_
      refine j_iconst (pc := 243) (v := nI 1) C d_Mod_join_243 (by decide) ?_
      refine j_iaddN (pc := 244) C d_Mod_join_244 ?_
      refine j_iconst (pc := 245) (v := nI 2) C d_Mod_join_245 (by decide) ?_
      refine j_idivN (pc := 246) C (by omega) (by omega) (by omega) d_Mod_join_246 ?_
      refine j_istore_n (pc := 247) (lv' := [(1, .int (nI ((m + 1) / 2))), (0, .ref o), (2, .int (nI (2 * ((m + 1) / 2))))]) C d_Mod_join_247 rfl (by decide) rfl ?_
      refine j_goto (pc := 248) (tgt := 38) C d_Mod_join_248 rfl ?_
      refine j_lv (lv' := [(0, .ref o), (1, .int (nI ((m + 1) / 2)))]) [1, 0] rfl ?_
      exact ih ((m + 1) / 2) c1 d1 Q1 D1 W1 H1 Y1 (by omega) (by omega) (JI_s (by omega) hJ hI hd) hQ1 hD1
set_option maxHeartbeats 4000000 in
set_option maxRecDepth 100000 in
theorem lp_j6 {g : JX} {κ : JK} {o cnt : Nat} {a : Nat → Nat} {v rt : Nat → Nat} {sz le ib pl at_ wr wh : Int32} {m : Nat} {c Q : Nat → Nat} {d : Bool} {D : Nat → Nat} {W H : Nat → BW} {Y : Nat → Nat} (hm : m ≤ 1) (C : j_C g κ b_Mod_join R_Mod rm_Mod_join 6) (hR : j_R g κ b_Mod_join none (fun r w => r = none ∧ w = [(o, .inr (6, mo a sz le ib (nI cnt) pl at_ wr wh (if d = true then (1 : Int32) else 0))), (a 12, .inl (aI g, 416, .inl (nf v))), (a 13, .inl (aI g, 384, .inl (nf c))), (a 14, .inl (aI g, 32, .inl (nf (cpT (rtF m c) rt 32)))), (a 15, .inl (aI g, 2112, .inl (nf Q))), (a 16, .inl (aI g, 32, .inl (nf D))), (a 17, .inl (aJ g, 64, .inr (.inl (lf64 (bn cK))))), (a 18, .inl (aJ g, 8, .inr (.inl (lf64 (bn cH))))), (a 19, .inl (aJ g, 64, .inr (.inl (lf64 (bn W))))), (a 20, .inl (aJ g, 8, .inr (.inl (lf64 (bn H))))), (a 22, .inl (aJ g, 10, .inr (.inl (lf64 Y))))]) 0 0) : ∀ (k : Nat) (i : Nat), i ≤ 32 → 32 + 1 ≤ i + k → j_V g κ (0) (0) 253 [(0, .ref o), (1, .int (nI m)), (2, .int (nI i))] [] ([(o, .inr (6, mo a sz le ib (nI cnt) pl at_ wr wh (if d = true then (1 : Int32) else 0))), (a 12, .inl (aI g, 416, .inl (nf v))), (a 13, .inl (aI g, 384, .inl (nf c))), (a 14, .inl (aI g, 32, .inl (nf (cpT (rtF m c) rt i)))), (a 15, .inl (aI g, 2112, .inl (nf Q))), (a 16, .inl (aI g, 32, .inl (nf D))), (a 17, .inl (aJ g, 64, .inr (.inl (lf64 (bn cK))))), (a 18, .inl (aJ g, 8, .inr (.inl (lf64 (bn cH))))), (a 19, .inl (aJ g, 64, .inr (.inl (lf64 (bn W))))), (a 20, .inl (aJ g, 8, .inr (.inl (lf64 (bn H))))), (a 22, .inl (aJ g, 10, .inr (.inl (lf64 Y))))]) := by
  intro k
  induction k with
  | zero =>
    intro i hi hk
    exfalso; omega
  | succ k ih =>
    intro i hi hk
    refine j_iload_n (pc := 253) C d_Mod_join_253 rfl 2 rfl ?_
    refine j_bipush (pc := 254) (v := nI 32) C d_Mod_join_254 (by decide) ?_
    refine j_icmp_geN (pc := 256) (tgt := 285) C (by omega) (by omega) d_Mod_join_256 rfl (fun c256 => ?_) (fun c256 => ?_)
    · skip
      exact hR.2.2 _ _ _ d_Mod_join_285 rfl (⟨rfl, by rw [show i = 32 by omega]⟩)
    · skip
      refine j_aload_n (pc := 259) C d_Mod_join_259 rfl 0 rfl ?_
      refine j_get (pc := 260) C F_Mod_56 0 rfl rfl d_Mod_join_260 ?_
      refine j_iload_n (pc := 263) C d_Mod_join_263 rfl 2 rfl ?_
      refine j_iload_n (pc := 264) C d_Mod_join_264 rfl 1 rfl ?_
      refine j_if_neN (pc := 265) (tgt := 272) C (by omega) d_Mod_join_265 rfl (fun c265 => ?_) (fun c265 => ?_)
      · skip
        refine j_aload_n (pc := 272) C d_Mod_join_272 rfl 0 rfl ?_
        refine j_get (pc := 273) C F_Mod_53 0 rfl rfl d_Mod_join_273 ?_
        refine j_iload_n (pc := 276) C d_Mod_join_276 rfl 2 rfl ?_
        refine j_ialdN (pc := 277) C 2 1 rfl rfl (by omega) (by omega) d_Mod_join_277 ?_
        refine j_rwi (y := nI (rtF m c i)) (by unfold rtF; first | (rw [if_pos (by omega)]) | (rw [if_neg (by omega)]; rfl)) ?_
        refine j_iastB (pc := 278) (ws' := [(o, .inr (6, mo a sz le ib (nI cnt) pl at_ wr wh (if d = true then (1 : Int32) else 0))), (a 12, .inl (aI g, 416, .inl (nf v))), (a 13, .inl (aI g, 384, .inl (nf c))), (a 14, .inl (aI g, 32, .inl (nf (va_up (cpT (rtF m c) rt i) i (rtF m c i))))), (a 15, .inl (aI g, 2112, .inl (nf Q))), (a 16, .inl (aI g, 32, .inl (nf D))), (a 17, .inl (aJ g, 64, .inr (.inl (lf64 (bn cK))))), (a 18, .inl (aJ g, 8, .inr (.inl (lf64 (bn cH))))), (a 19, .inl (aJ g, 64, .inr (.inl (lf64 (bn W))))), (a 20, .inl (aJ g, 8, .inr (.inl (lf64 (bn H))))), (a 22, .inl (aJ g, 10, .inr (.inl (lf64 Y))))]) C 3 1 rfl rfl (by omega) (by omega) rfl d_Mod_join_278 ?_
        refine j_iinc (pc := 279) (k := 2) (v := nI (i + 1)) (lv' := [(2, .int (nI (i + 1))), (0, .ref o), (1, .int (nI m))]) C d_Mod_join_279 rfl (j_inc _ _) (by decide) rfl ?_
        refine j_goto (pc := 282) (tgt := 253) C d_Mod_join_282 rfl ?_
        refine j_lv (lv' := [(0, .ref o), (1, .int (nI m)), (2, .int (nI (i + 1)))]) [1, 2, 0] rfl ?_
        rw [cpT_s]
        exact ih (i + 1) (by omega) (by omega)
      · skip
        refine j_iconst (pc := 268) (v := nI 0) C d_Mod_join_268 (by decide) ?_
        refine j_goto (pc := 269) (tgt := 278) C d_Mod_join_269 rfl ?_
        refine j_rwi (y := nI (rtF m c i)) (by unfold rtF; first | (rw [if_pos (by omega)]) | (rw [if_neg (by omega)]; rfl)) ?_
        refine j_iastB (pc := 278) (ws' := [(o, .inr (6, mo a sz le ib (nI cnt) pl at_ wr wh (if d = true then (1 : Int32) else 0))), (a 12, .inl (aI g, 416, .inl (nf v))), (a 13, .inl (aI g, 384, .inl (nf c))), (a 14, .inl (aI g, 32, .inl (nf (va_up (cpT (rtF m c) rt i) i (rtF m c i))))), (a 15, .inl (aI g, 2112, .inl (nf Q))), (a 16, .inl (aI g, 32, .inl (nf D))), (a 17, .inl (aJ g, 64, .inr (.inl (lf64 (bn cK))))), (a 18, .inl (aJ g, 8, .inr (.inl (lf64 (bn cH))))), (a 19, .inl (aJ g, 64, .inr (.inl (lf64 (bn W))))), (a 20, .inl (aJ g, 8, .inr (.inl (lf64 (bn H))))), (a 22, .inl (aJ g, 10, .inr (.inl (lf64 Y))))]) C 3 1 rfl rfl (by omega) (by omega) rfl d_Mod_join_278 ?_
        refine j_iinc (pc := 279) (k := 2) (v := nI (i + 1)) (lv' := [(2, .int (nI (i + 1))), (0, .ref o), (1, .int (nI m))]) C d_Mod_join_279 rfl (j_inc _ _) (by decide) rfl ?_
        refine j_goto (pc := 282) (tgt := 253) C d_Mod_join_282 rfl ?_
        refine j_lv (lv' := [(0, .ref o), (1, .int (nI m)), (2, .int (nI (i + 1)))]) [1, 2, 0] rfl ?_
        rw [cpT_s]
        exact ih (i + 1) (by omega) (by omega)
set_option maxHeartbeats 4000000 in
set_option maxRecDepth 100000 in
theorem c_Mod_join (l : Launch) (g : JX) (o : Nat) (a : Nat → Nat) (cnt : Nat) (v r rt Q D : Nat → Nat) (W H : Nat → BW) (Y : Nat → Nat) (sz le ib pl at_ wr wh db : Int32) (hc : cnt ≤ 12) (hv : ∀ j, v j < 256) (hr : ∀ j, r j < 256) (hrt0 : ∀ j, rt j < 256) (hQ : ∀ j, Q j < 256) (hD : ∀ j, D j < 256) : j_Ct l y_Mod_join b_Mod_join 6 none rm_Mod_join g ([(o, .inr (6, mo a sz le ib (nI cnt) pl at_ wr wh db)), (a 12, .inl (aI g, 416, .inl (nf v))), (a 13, .inl (aI g, 384, .inl (nf r))), (a 14, .inl (aI g, 32, .inl (nf rt))), (a 15, .inl (aI g, 2112, .inl (nf Q))), (a 16, .inl (aI g, 32, .inl (nf D))), (a 17, .inl (aJ g, 64, .inr (.inl (lf64 (bn cK))))), (a 18, .inl (aJ g, 8, .inr (.inl (lf64 (bn cH))))), (a 19, .inl (aJ g, 64, .inr (.inl (lf64 (bn W))))), (a 20, .inl (aJ g, 8, .inr (.inl (lf64 (bn H))))), (a 22, .inl (aJ g, 10, .inr (.inl (lf64 Y))))]) [.ref o] (fun r w => ∃ (c1 rt1 Q1 D1 : Nat → Nat) (W1 H1 : Nat → BW) (Y1 : Nat → Nat), r = none ∧ w = [(o, .inr (6, mo a sz le ib (nI cnt) pl at_ wr wh (b2 (dbT cnt v)))), (a 12, .inl (aI g, 416, .inl (nf v))), (a 13, .inl (aI g, 384, .inl (nf c1))), (a 14, .inl (aI g, 32, .inl (nf rt1))), (a 15, .inl (aI g, 2112, .inl (nf Q1))), (a 16, .inl (aI g, 32, .inl (nf D1))), (a 17, .inl (aJ g, 64, .inr (.inl (lf64 (bn cK))))), (a 18, .inl (aJ g, 8, .inr (.inl (lf64 (bn cH))))), (a 19, .inl (aJ g, 64, .inr (.inl (lf64 (bn W1))))), (a 20, .inl (aJ g, 8, .inr (.inl (lf64 (bn H1))))), (a 22, .inl (aJ g, 10, .inr (.inl (lf64 Y1))))] ∧ (∀ j, c1 j < 256) ∧ (∀ j, rt1 j < 256) ∧ (∀ j, Q1 j < 256) ∧ (∀ j, D1 j < 256) ∧ ∀ j, j < 32 → rt1 j = if cnt = 0 then 0 else rwN cnt v j) 0 0 := by
  refine j_ct (by decide) (Nat.le_of_ble_eq_true rfl) (fun κ hkl C hR hI => ?_)
  show j_V g κ 0 0 0 [(0, .ref o)] [] ([(o, .inr (6, mo a sz le ib (nI cnt) pl at_ wr wh db)), (a 12, .inl (aI g, 416, .inl (nf v))), (a 13, .inl (aI g, 384, .inl (nf r))), (a 14, .inl (aI g, 32, .inl (nf rt))), (a 15, .inl (aI g, 2112, .inl (nf Q))), (a 16, .inl (aI g, 32, .inl (nf D))), (a 17, .inl (aJ g, 64, .inr (.inl (lf64 (bn cK))))), (a 18, .inl (aJ g, 8, .inr (.inl (lf64 (bn cH))))), (a 19, .inl (aJ g, 64, .inr (.inl (lf64 (bn W))))), (a 20, .inl (aJ g, 8, .inr (.inl (lf64 (bn H))))), (a 22, .inl (aJ g, 10, .inr (.inl (lf64 Y))))])
  refine j_aload_n (pc := 0) C d_Mod_join_0 rfl 0 rfl ?_
  refine j_get (pc := 1) C F_Mod_130 0 rfl rfl d_Mod_join_1 ?_
  refine j_istore_n (pc := 4) (lv' := [(1, .int (nI cnt)), (0, .ref o)]) C d_Mod_join_4 rfl (by decide) rfl ?_
  refine j_aload_n (pc := 5) C d_Mod_join_5 rfl 1 rfl ?_
  refine j_iconst (pc := 6) (v := nI 0) C d_Mod_join_6 (by decide) ?_
  refine j_put (pc := 7) (ws' := [(o, .inr (6, mo a sz le ib (nI cnt) pl at_ wr wh (nI 0))), (a 12, .inl (aI g, 416, .inl (nf v))), (a 13, .inl (aI g, 384, .inl (nf r))), (a 14, .inl (aI g, 32, .inl (nf rt))), (a 15, .inl (aI g, 2112, .inl (nf Q))), (a 16, .inl (aI g, 32, .inl (nf D))), (a 17, .inl (aJ g, 64, .inr (.inl (lf64 (bn cK))))), (a 18, .inl (aJ g, 8, .inr (.inl (lf64 (bn cH))))), (a 19, .inl (aJ g, 64, .inr (.inl (lf64 (bn W))))), (a 20, .inl (aJ g, 8, .inr (.inl (lf64 (bn H))))), (a 22, .inl (aJ g, 10, .inr (.inl (lf64 Y))))]) C Fp_Mod_133 0 rfl (by first | rfl | decide) (by first | rfl | decide) (Nat.le_of_ble_eq_true rfl) rfl d_Mod_join_7 ?_
  refine j_iconst (pc := 10) (v := nI 0) C d_Mod_join_10 (by decide) ?_
  refine j_istore_n (pc := 11) (lv' := [(2, .int (nI 0)), (1, .int (nI cnt)), (0, .ref o)]) C d_Mod_join_11 rfl (by decide) rfl ?_
  refine j_lv (lv' := [(0, .ref o), (1, .int (nI cnt)), (2, .int (nI 0))]) [2, 1, 0] rfl ?_
  have e9 := lp_j1 (o := o) (cnt := cnt) (a := a) (v := v) (rt := rt) (sz := sz) (le := le) (ib := ib) (pl := pl) (at_ := at_) (wr := wr) (wh := wh) (r := r) (Q := Q) (D := D) (W := W) (H := H) (Y := Y) hc ?_ C (32 * cnt + 1) 0 (by omega) (by omega)
  rw [cpT_0] at e9
  exact e9
  refine lp_j5 (o := o) (cnt := cnt) (a := a) (v := v) (rt := rt) (sz := sz) (le := le) (ib := ib) (pl := pl) (at_ := at_) (wr := wr) (wh := wh) (fun m c1 d Q1 D1 W1 H1 Y1 hm hJ hQ1 hD1 => ?_) C (cnt + 1) cnt (cpT v r (32 * cnt)) false Q D W H Y (by omega) (by omega) (JI_0 hv hr) hQ hD
  obtain ⟨he, hrt⟩ := JI_end hm hJ
  show j_V g κ 0 0 251 [(0, .ref o), (1, .int (nI m))] [] ([(o, .inr (6, mo a sz le ib (nI cnt) pl at_ wr wh (if d = true then (1 : Int32) else 0))), (a 12, .inl (aI g, 416, .inl (nf v))), (a 13, .inl (aI g, 384, .inl (nf c1))), (a 14, .inl (aI g, 32, .inl (nf rt))), (a 15, .inl (aI g, 2112, .inl (nf Q1))), (a 16, .inl (aI g, 32, .inl (nf D1))), (a 17, .inl (aJ g, 64, .inr (.inl (lf64 (bn cK))))), (a 18, .inl (aJ g, 8, .inr (.inl (lf64 (bn cH))))), (a 19, .inl (aJ g, 64, .inr (.inl (lf64 (bn W1))))), (a 20, .inl (aJ g, 8, .inr (.inl (lf64 (bn H1))))), (a 22, .inl (aJ g, 10, .inr (.inl (lf64 Y1))))])
  refine j_iconst (pc := 251) (v := nI 0) C d_Mod_join_251 (by decide) ?_
  refine j_istore_n (pc := 252) (lv' := [(2, .int (nI 0)), (0, .ref o), (1, .int (nI m))]) C d_Mod_join_252 rfl (by decide) rfl ?_
  refine j_lv (lv' := [(0, .ref o), (1, .int (nI m)), (2, .int (nI 0))]) [1, 2, 0] rfl ?_
  have e9 := lp_j6 (o := o) (cnt := cnt) (a := a) (v := v) (rt := rt) (sz := sz) (le := le) (ib := ib) (pl := pl) (at_ := at_) (wr := wr) (wh := wh) (m := m) (c := c1) (Q := Q1) (d := d) (D := D1) (W := W1) (H := H1) (Y := Y1) hm C (j_R_mono hR (fun r w h => ⟨c1, cpT (rtF m c1) rt 32, Q1, D1, W1, H1, Y1, h.1, by rw [h.2, he]; rfl, hJ.2.2.2, cpT_lt (rtF_lt hJ.2.2.2) hrt0, hQ1, hD1, fun j hj => by rw [cpT_at hj]; exact hrt j hj⟩)) 33 0 (by omega) (by omega)
  rw [cpT_0] at e9
  exact e9
