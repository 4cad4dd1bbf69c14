abbrev rm_Row_alike : Room := { frames := 0, cells := 0, slots := 0, locals := 0 }
set_option maxHeartbeats 4000000 in
set_option maxRecDepth 100000 in
theorem lp_al {g : JX} {κ : JK} {w0 nr q : Nat} {c : Nat → Nat} {x : Int32} (hc : ∀ j, c j < 256) (hq : q * 32 + 64 ≤ 384) (C : j_C g κ b_Row_alike R_Row rm_Row_alike 4) (hR : j_R g κ b_Row_alike (some .boolean) (fun r w1 => r = some (.int (if alk c q = true then (1 : Int32) else 0)) ∧ w1 = [(w0, .inr (0, [.ref nr, .int x])), (nr, .inl (aB g, 384, .inl (bf c)))]) 0 0) : ∀ (k : Nat) (i : Nat), i ≤ 32 → 33 ≤ i + k → (∀ j, j < i → c (q * 32 + j) = c (q * 32 + 32 + j)) → j_V g κ (0) (0) 25 [(0, .ref w0), (1, .int (nI q)), (2, .int (nI (q * 32))), (3, .int (nI i))] [] ([(w0, .inr (0, [.ref nr, .int x])), (nr, .inl (aB g, 384, .inl (bf c)))]) := by
  intro k
  induction k with
  | zero =>
    intro i hi hk hall
    exfalso; omega
  | succ k ih =>
    intro i hi hk hall
    refine j_iload_n (pc := 25) C d_Row_alike_25 rfl 3 rfl ?_
    refine j_bipush (pc := 26) (v := nI 32) C d_Row_alike_26 (by decide) ?_
    refine j_icmp_geN (pc := 28) (tgt := 61) C (by omega) (by omega) d_Row_alike_28 rfl (fun c28 => ?_) (fun c28 => ?_)
    · skip
      refine j_iconst (pc := 61) (v := nI 1) C d_Row_alike_61 (by decide) ?_
      exact hR.1 _ _ _ _ d_Row_alike_62 ⟨_, rfl, by first | rfl | decide⟩ (⟨by first | rw [if_neg e50]; rfl | rw [if_pos (alk_iff.mpr (fun j hj => hall j (by omega)))]; rfl, rfl⟩)
    · skip
      refine j_aload_n (pc := 31) C d_Row_alike_31 rfl 0 rfl ?_
      refine j_get (pc := 32) C F_Row_9 0 rfl rfl d_Row_alike_32 ?_
      refine j_iload_n (pc := 35) C d_Row_alike_35 rfl 2 rfl ?_
      refine j_iload_n (pc := 36) C d_Row_alike_36 rfl 3 rfl ?_
      refine j_iaddN (pc := 37) C d_Row_alike_37 ?_
      refine j_baldN (pc := 38) C 1 0 rfl rfl (by omega) (by omega) d_Row_alike_38 ?_
      refine j_aload_n (pc := 39) C d_Row_alike_39 rfl 0 rfl ?_
      refine j_get (pc := 40) C F_Row_9 0 rfl rfl d_Row_alike_40 ?_
      refine j_iload_n (pc := 43) C d_Row_alike_43 rfl 2 rfl ?_
      refine j_bipush (pc := 44) (v := nI 32) C d_Row_alike_44 (by decide) ?_
      refine j_iaddN (pc := 46) C d_Row_alike_46 ?_
      refine j_iload_n (pc := 47) C d_Row_alike_47 rfl 3 rfl ?_
      refine j_iaddN (pc := 48) C d_Row_alike_48 ?_
      refine j_baldN (pc := 49) C 1 0 rfl rfl (by omega) (by omega) d_Row_alike_49 ?_
      refine j_icmp_eq (pc := 50) (tgt := 55) C d_Row_alike_50 rfl (fun c50 => ?_) (fun c50 => ?_)
      · skip
        have e50 := (sb_inj (hc _) (hc _)).mp c50
        refine j_iinc (pc := 55) (k := 3) (v := nI (i + 1)) (lv' := [(3, .int (nI (i + 1))), (0, .ref w0), (1, .int (nI q)), (2, .int (nI (q * 32)))]) C d_Row_alike_55 rfl (j_inc _ _) (by decide) rfl ?_
        refine j_goto (pc := 58) (tgt := 25) C d_Row_alike_58 rfl ?_
        refine j_lv (lv' := [(0, .ref w0), (1, .int (nI q)), (2, .int (nI (q * 32))), (3, .int (nI (i + 1)))]) [1, 2, 3, 0] rfl ?_
        exact ih (i + 1) (by omega) (by omega) (fun j hj => if e : j = i then (by subst e; exact e50) else hall j (by omega))
      · skip
        have e50 : ¬ alk c q = true := fun h => c50 ((sb_inj (hc _) (hc _)).mpr (alk_iff.mp h i (by omega)))
        refine j_iconst (pc := 53) (v := nI 0) C d_Row_alike_53 (by decide) ?_
        exact hR.1 _ _ _ _ d_Row_alike_54 ⟨_, rfl, by first | rfl | decide⟩ (⟨by first | rw [if_neg e50]; rfl | rw [if_pos (alk_iff.mpr (fun j hj => hall j (by omega)))]; rfl, rfl⟩)
set_option maxHeartbeats 4000000 in
set_option maxRecDepth 100000 in
theorem c_Row_alike (l : Launch) (g : JX) (w0 nr q : Nat) (c : Nat → Nat) (x : Int32) (hc : ∀ j, c j < 256) (hq : q * 32 + 64 ≤ 384) : j_Ct l y_Row_alike b_Row_alike 4 (some .boolean) rm_Row_alike g ([(w0, .inr (0, [.ref nr, .int x])), (nr, .inl (aB g, 384, .inl (bf c)))]) [.ref w0, .int (nI q)] (fun r w1 => r = some (.int (if alk c q = true then (1 : Int32) else 0)) ∧ w1 = [(w0, .inr (0, [.ref nr, .int x])), (nr, .inl (aB g, 384, .inl (bf c)))]) 0 0 := by
  refine j_ct (by decide) (Nat.le_of_ble_eq_true rfl) (fun κ hkl C hR hI => ?_)
  show j_V g κ 0 0 0 [(0, .ref w0), (1, .int (nI q))] [] ([(w0, .inr (0, [.ref nr, .int x])), (nr, .inl (aB g, 384, .inl (bf c)))])
  refine j_iload_n (pc := 0) C d_Row_alike_0 rfl 1 rfl ?_
  refine j_bipush (pc := 1) (v := nI 32) C d_Row_alike_1 (by decide) ?_
  refine j_imulN (pc := 3) C d_Row_alike_3 ?_
  refine j_istore_n (pc := 4) (lv' := [(2, .int (nI (q * 32))), (0, .ref w0), (1, .int (nI q))]) C d_Row_alike_4 rfl (by decide) rfl ?_
  refine j_iload_n (pc := 5) C d_Row_alike_5 rfl 0 rfl ?_
  refine j_if_ltN (pc := 6) (tgt := 21) C (by omega) d_Row_alike_6 rfl ?_
  refine j_iload_n (pc := 9) C d_Row_alike_9 rfl 0 rfl ?_
  refine j_aload_n (pc := 10) C d_Row_alike_10 rfl 1 rfl ?_
  refine j_get (pc := 11) C F_Row_9 0 rfl rfl d_Row_alike_11 ?_
  refine j_alen (pc := 14) (v := nI 384) C 1 0 rfl rfl rfl d_Row_alike_14 ?_
  refine j_bipush (pc := 15) (v := nI 64) C d_Row_alike_15 (by decide) ?_
  refine j_isubN (pc := 17) C (by omega) d_Row_alike_17 ?_
  refine j_icmp_leN (pc := 18) (tgt := 23) C (by omega) (by omega) d_Row_alike_18 rfl (fun c18 => ?_) (fun c18 => ?_)
  · skip
    refine j_iconst (pc := 23) (v := nI 0) C d_Row_alike_23 (by decide) ?_
    refine j_istore_n (pc := 24) (lv' := [(3, .int (nI 0)), (2, .int (nI (q * 32))), (0, .ref w0), (1, .int (nI q))]) C d_Row_alike_24 rfl (by decide) rfl ?_
    refine j_lv (lv' := [(0, .ref w0), (1, .int (nI q)), (2, .int (nI (q * 32))), (3, .int (nI 0))]) [2, 3, 1, 0] rfl ?_
    exact lp_al (w0 := w0) (nr := nr) (q := q) (c := c) (x := x) hc hq C hR 33 0 (by omega) (by omega) (fun j hj => absurd hj (by omega))
  · skip
    exfalso; omega
abbrev rm_Row_repeat : Room := { frames := 0, cells := 0, slots := 0, locals := 0 }
set_option maxHeartbeats 4000000 in
set_option maxRecDepth 100000 in
theorem lp_rp {g : JX} {κ : JK} {w0 nr q : Nat} {c : Nat → Nat} {x : Int32} (hq : q * 32 + 64 ≤ 384) (C : j_C g κ b_Row_repeat R_Row rm_Row_repeat 4) (hR : j_R g κ b_Row_repeat none (fun r w1 => r = none ∧ w1 = [(w0, .inr (0, [.ref nr, .int x])), (nr, .inl (aB g, 384, .inl (bf (putF c (q * 32 + 32) 32 (fun k => c (q * 32 + k))))))]) 0 0) : ∀ (k : Nat) (i : Nat), i ≤ 32 → 33 ≤ i + k → j_V g κ (0) (0) 24 [(0, .ref w0), (1, .int (nI q)), (2, .int (nI (q * 32))), (3, .int (nI i))] [] ([(w0, .inr (0, [.ref nr, .int x])), (nr, .inl (aB g, 384, .inl (bf (putF c (q * 32 + 32) i (fun k => c (q * 32 + k))))))]) := by
  intro k
  induction k with
  | zero =>
    intro i hi hk
    exfalso; omega
  | succ k ih =>
    intro i hi hk
    refine j_iload_n (pc := 24) C d_Row_repeat_24 rfl 3 rfl ?_
    refine j_bipush (pc := 25) (v := nI 32) C d_Row_repeat_25 (by decide) ?_
    refine j_icmp_geN (pc := 27) (tgt := 55) C (by omega) (by omega) d_Row_repeat_27 rfl (fun c27 => ?_) (fun c27 => ?_)
    · skip
      exact hR.2.2 _ _ _ d_Row_repeat_55 rfl (⟨rfl, by rw [show i = 32 by omega]⟩)
    · skip
      refine j_aload_n (pc := 30) C d_Row_repeat_30 rfl 0 rfl ?_
      refine j_get (pc := 31) C F_Row_9 0 rfl rfl d_Row_repeat_31 ?_
      refine j_iload_n (pc := 34) C d_Row_repeat_34 rfl 2 rfl ?_
      refine j_bipush (pc := 35) (v := nI 32) C d_Row_repeat_35 (by decide) ?_
      refine j_iaddN (pc := 37) C d_Row_repeat_37 ?_
      refine j_iload_n (pc := 38) C d_Row_repeat_38 rfl 3 rfl ?_
      refine j_iaddN (pc := 39) C d_Row_repeat_39 ?_
      refine j_aload_n (pc := 40) C d_Row_repeat_40 rfl 0 rfl ?_
      refine j_get (pc := 41) C F_Row_9 0 rfl rfl d_Row_repeat_41 ?_
      refine j_iload_n (pc := 44) C d_Row_repeat_44 rfl 2 rfl ?_
      refine j_iload_n (pc := 45) C d_Row_repeat_45 rfl 3 rfl ?_
      refine j_iaddN (pc := 46) C d_Row_repeat_46 ?_
      refine j_baldN (pc := 47) C 1 0 rfl rfl (by omega) (by omega) d_Row_repeat_47 ?_
      refine j_rwi (y := sb_b (c (q * 32 + i))) (by show sb_b _ = _; rw [putF_lo (by omega)]) ?_
      refine j_bastB (pc := 48) (ws' := [(w0, .inr (0, [.ref nr, .int x])), (nr, .inl (aB g, 384, .inl (bf (va_up (putF c (q * 32 + 32) i (fun k => c (q * 32 + k))) (((q * 32) + 32) + i) (c (q * 32 + i))))))]) C 1 0 rfl rfl (by omega) (by omega) (sb_nar _) rfl d_Row_repeat_48 ?_
      refine j_iinc (pc := 49) (k := 3) (v := nI (i + 1)) (lv' := [(3, .int (nI (i + 1))), (0, .ref w0), (1, .int (nI q)), (2, .int (nI (q * 32)))]) C d_Row_repeat_49 rfl (j_inc _ _) (by decide) rfl ?_
      refine j_goto (pc := 52) (tgt := 24) C d_Row_repeat_52 rfl ?_
      refine j_lv (lv' := [(0, .ref w0), (1, .int (nI q)), (2, .int (nI (q * 32))), (3, .int (nI (i + 1)))]) [1, 2, 3, 0] rfl ?_
      have e := ih (i + 1) (by omega) (by omega)
      rw [← putF_s] at e
      exact e
set_option maxHeartbeats 4000000 in
set_option maxRecDepth 100000 in
theorem c_Row_repeat (l : Launch) (g : JX) (w0 nr q : Nat) (c : Nat → Nat) (x : Int32) (hq : q * 32 + 64 ≤ 384) : j_Ct l y_Row_repeat b_Row_repeat 4 none rm_Row_repeat g ([(w0, .inr (0, [.ref nr, .int x])), (nr, .inl (aB g, 384, .inl (bf c)))]) [.ref w0, .int (nI q)] (fun r w1 => r = none ∧ w1 = [(w0, .inr (0, [.ref nr, .int x])), (nr, .inl (aB g, 384, .inl (bf (putF c (q * 32 + 32) 32 (fun k => c (q * 32 + k))))))]) 0 0 := by
  refine j_ct (by decide) (Nat.le_of_ble_eq_true rfl) (fun κ hkl C hR hI => ?_)
  show j_V g κ 0 0 0 [(0, .ref w0), (1, .int (nI q))] [] ([(w0, .inr (0, [.ref nr, .int x])), (nr, .inl (aB g, 384, .inl (bf c)))])
  refine j_iload_n (pc := 0) C d_Row_repeat_0 rfl 1 rfl ?_
  refine j_bipush (pc := 1) (v := nI 32) C d_Row_repeat_1 (by decide) ?_
  refine j_imulN (pc := 3) C d_Row_repeat_3 ?_
  refine j_istore_n (pc := 4) (lv' := [(2, .int (nI (q * 32))), (0, .ref w0), (1, .int (nI q))]) C d_Row_repeat_4 rfl (by decide) rfl ?_
  refine j_iload_n (pc := 5) C d_Row_repeat_5 rfl 0 rfl ?_
  refine j_if_ltN (pc := 6) (tgt := 21) C (by omega) d_Row_repeat_6 rfl ?_
  refine j_iload_n (pc := 9) C d_Row_repeat_9 rfl 0 rfl ?_
  refine j_aload_n (pc := 10) C d_Row_repeat_10 rfl 1 rfl ?_
  refine j_get (pc := 11) C F_Row_9 0 rfl rfl d_Row_repeat_11 ?_
  refine j_alen (pc := 14) (v := nI 384) C 1 0 rfl rfl rfl d_Row_repeat_14 ?_
  refine j_bipush (pc := 15) (v := nI 64) C d_Row_repeat_15 (by decide) ?_
  refine j_isubN (pc := 17) C (by omega) d_Row_repeat_17 ?_
  refine j_icmp_leN (pc := 18) (tgt := 22) C (by omega) (by omega) d_Row_repeat_18 rfl (fun c18 => ?_) (fun c18 => ?_)
  · skip
    refine j_iconst (pc := 22) (v := nI 0) C d_Row_repeat_22 (by decide) ?_
    refine j_istore_n (pc := 23) (lv' := [(3, .int (nI 0)), (2, .int (nI (q * 32))), (0, .ref w0), (1, .int (nI q))]) C d_Row_repeat_23 rfl (by decide) rfl ?_
    refine j_lv (lv' := [(0, .ref w0), (1, .int (nI q)), (2, .int (nI (q * 32))), (3, .int (nI 0))]) [2, 3, 1, 0] rfl ?_
    have e := lp_rp (w0 := w0) (nr := nr) (q := q) (c := c) (x := x) hq C hR 33 0 (by omega) (by omega)
    rw [putF_0] at e
    exact e
  · skip
    exfalso; omega
abbrev rm_Row_putPairsTogether : Room := { frames := 4, cells := 0, slots := 0, locals := 107 }
set_option maxHeartbeats 4000000 in
set_option maxRecDepth 100000 in
theorem lp_pp {g : JX} {κ : JK} {w0 nr m0 ms mw mf n : Nat} {r0 : Nat → Nat} {D : Bool} (hn : n ≤ 12) (hn1 : 1 < n) (C : j_C g κ b_Row_putPairsTogether R_Row rm_Row_putPairsTogether 6) (hR : j_R g κ b_Row_putPairsTogether none (fun r w1 => ∃ (d1 w2 : Nat → BW) (u1 c1 : Nat → Nat), r = none ∧ w1 = [(w0, .inr (0, [.ref nr, .int (b2 (D || dbq n r0 ((n + 1) / 2)))])), (nr, .inl (aB g, 384, .inl (bf c1))), (m0, .inr (1, [.ref ms, .ref mw, .ref mf])), (ms, .inl (aI g, 8, .inl (wf d1))), (mw, .inl (aI g, 64, .inl (wf w2))), (mf, .inl (aB g, 32, .inl (bf u1)))] ∧ (∀ j, u1 j < 256) ∧ RInv n r0 ((n + 1) / 2) c1) 0 0) : ∀ (k : Nat) (p : Nat) (d w : Nat → BW) (u c : Nat → Nat), p ≤ (n + 1) / 2 → (n + 1) / 2 + 1 ≤ p + k → (∀ j, u j < 256) → RInv n r0 p c → j_V g κ (0) (0) 9 [(0, .ref w0), (1, .int (nI n)), (2, .ref m0), (3, .int (nI ((n + 1) / 2))), (4, .int (nI p))] [] ([(w0, .inr (0, [.ref nr, .int (b2 (D || dbq n r0 p))])), (nr, .inl (aB g, 384, .inl (bf c))), (m0, .inr (1, [.ref ms, .ref mw, .ref mf])), (ms, .inl (aI g, 8, .inl (wf d))), (mw, .inl (aI g, 64, .inl (wf w))), (mf, .inl (aB g, 32, .inl (bf u)))]) := by
  intro k
  induction k with
  | zero =>
    intro p d w u c hp hk hu hI9
    exfalso; omega
  | succ k ih =>
    intro p d w u c hp hk hu hI9
    refine j_iload (pc := 9) C d_Row_putPairsTogether_9 4 rfl ?_
    refine j_iload_n (pc := 11) C d_Row_putPairsTogether_11 rfl 3 rfl ?_
    refine j_icmp_geN (pc := 12) (tgt := 82) C (by omega) (by omega) d_Row_putPairsTogether_12 rfl (fun c12 => ?_) (fun c12 => ?_)
    · skip
      exact hR.2.2 _ _ _ d_Row_putPairsTogether_82 rfl (by rw [show (n + 1) / 2 = p by omega]; exact ⟨d, w, u, c, rfl, rfl, hu, hI9⟩)
    · skip
      refine j_iconst (pc := 15) (v := nI 2) C d_Row_putPairsTogether_15 (by decide) ?_
      refine j_iload (pc := 16) C d_Row_putPairsTogether_16 4 rfl ?_
      refine j_imulN (pc := 18) C d_Row_putPairsTogether_18 ?_
      refine j_istore (pc := 19) (lv' := [(5, .int (nI (2 * p))), (0, .ref w0), (1, .int (nI n)), (2, .ref m0), (3, .int (nI ((n + 1) / 2))), (4, .int (nI p))]) C d_Row_putPairsTogether_19 (by decide) rfl ?_
      refine j_iload (pc := 21) C d_Row_putPairsTogether_21 0 rfl ?_
      refine j_iconst (pc := 23) (v := nI 1) C d_Row_putPairsTogether_23 (by decide) ?_
      refine j_iaddN (pc := 24) C d_Row_putPairsTogether_24 ?_
      refine j_iload_n (pc := 25) C d_Row_putPairsTogether_25 rfl 2 rfl ?_
      refine j_icmp_neN (pc := 26) (tgt := 38) C (by omega) (by omega) d_Row_putPairsTogether_26 rfl (fun c26 => ?_) (fun c26 => ?_)
      · skip
        refine j_aload_n (pc := 38) C d_Row_putPairsTogether_38 rfl 1 rfl ?_
        refine j_iload (pc := 39) C d_Row_putPairsTogether_39 0 rfl ?_
        have eal : alk c (2 * p) = alk r0 (2 * p) := alk_cg (fun k hk => hI9.2.1 (by omega) _ (by omega) (by omega))
        refine j_callV (pc := 41) (As := [.int (nI (2 * p))]) (rest := []) (wc := [(w0, .inr (0, [.ref nr, .int (b2 (D || dbq n r0 p))])), (nr, .inl (aB g, 384, .inl (bf c)))]) (wr := [(m0, .inr (1, [.ref ms, .ref mw, .ref mf])), (ms, .inl (aI g, 8, .inl (wf d))), (mw, .inl (aI g, 64, .inl (wf w))), (mf, .inl (aB g, 32, .inl (bf u)))]) C (c_Row_alike (kl κ) g w0 nr (2 * p) c (b2 (D || dbq n r0 p)) hI9.2.2 (by omega)) Y_Row_alike ml_Row_27 im_Row_alike sl_Row_alike rfl ⟨by decide, by decide⟩ rfl (ci := 0) (q0 := 0) rfl rfl rfl (Nat.le_of_ble_eq_true rfl) (j_sb [0, 1, 2, 3, 4, 5] rfl rfl) rfl d_Row_putPairsTogether_41 (fun r w1 hO => ?_)
        obtain ⟨rfl, rfl⟩ := hO
        show j_V g κ 0 0 44 [(5, .int (nI (2 * p))), (0, .ref w0), (1, .int (nI n)), (2, .ref m0), (3, .int (nI ((n + 1) / 2))), (4, .int (nI p))] [.int (if alk c (2 * p) = true then (1 : Int32) else 0)] ([(w0, .inr (0, [.ref nr, .int (b2 (D || dbq n r0 p))])), (nr, .inl (aB g, 384, .inl (bf c))), (m0, .inr (1, [.ref ms, .ref mw, .ref mf])), (ms, .inl (aI g, 8, .inl (wf d))), (mw, .inl (aI g, 64, .inl (wf w))), (mf, .inl (aB g, 32, .inl (bf u)))])
        refine j_if_eqB (pc := 44) (tgt := 52) C d_Row_putPairsTogether_44 rfl (fun c44 => ?_) (fun c44 => ?_)
        · skip
          refine j_aload_n (pc := 52) C d_Row_putPairsTogether_52 rfl 3 rfl ?_
          refine j_aload_n (pc := 53) C d_Row_putPairsTogether_53 rfl 1 rfl ?_
          refine j_get (pc := 54) C F_Row_9 0 rfl rfl d_Row_putPairsTogether_54 ?_
          refine j_iload (pc := 57) C d_Row_putPairsTogether_57 0 rfl ?_
          refine j_bipush (pc := 59) (v := nI 32) C d_Row_putPairsTogether_59 (by decide) ?_
          refine j_imulN (pc := 61) C d_Row_putPairsTogether_61 ?_
          refine j_bipush (pc := 62) (v := nI 64) C d_Row_putPairsTogether_62 (by decide) ?_
          refine j_aload_n (pc := 64) C d_Row_putPairsTogether_64 rfl 1 rfl ?_
          refine j_get (pc := 65) C F_Row_9 0 rfl rfl d_Row_putPairsTogether_65 ?_
          refine j_iload (pc := 68) C d_Row_putPairsTogether_68 5 rfl ?_
          refine j_bipush (pc := 70) (v := nI 32) C d_Row_putPairsTogether_70 (by decide) ?_
          refine j_imulN (pc := 72) C d_Row_putPairsTogether_72 ?_
          refine j_callV (pc := 73) (As := [.ref nr, .int (nI ((2 * p) * 32)), .int (nI 64), .ref nr, .int (nI (p * 32))]) (rest := []) (wc := [(m0, .inr (1, [.ref ms, .ref mw, .ref mf])), (ms, .inl (aI g, 8, .inl (wf d))), (mw, .inl (aI g, 64, .inl (wf w))), (mf, .inl (aB g, 32, .inl (bf u))), (nr, .inl (aB g, 384, .inl (bf c)))]) (wr := [(w0, .inr (0, [.ref nr, .int (b2 (D || dbq n r0 p))]))]) C (c_Nam_writeName_same (kl κ) g m0 ms mw mf nr 384 ((2 * p) * 32) 64 (p * 32) c u d w (by omega) (hI9.2.2) (hu) (by omega) (by omega)) Y_Nam_writeName ml_Row_31 im_Nam_writeName sl_Nam_writeName rfl ⟨by decide, by decide⟩ rfl (ci := 1) (q0 := 0) rfl rfl rfl (Nat.le_of_ble_eq_true rfl) (j_sb [2, 3, 4, 5, 1, 0] rfl rfl) rfl d_Row_putPairsTogether_73 (fun r w1 hO => ?_)
          obtain ⟨d1, w1, u1, rfl, rfl, hu1⟩ := hO
          show j_V g κ 0 0 76 [(5, .int (nI (2 * p))), (0, .ref w0), (1, .int (nI n)), (2, .ref m0), (3, .int (nI ((n + 1) / 2))), (4, .int (nI p))] [] ([(m0, .inr (1, [.ref ms, .ref mw, .ref mf])), (ms, .inl (aI g, 8, .inl (wf d1))), (mw, .inl (aI g, 64, .inl (wf w1))), (mf, .inl (aB g, 32, .inl (bf u1))), (nr, .inl (aB g, 384, .inl (bf (putF c (p * 32) 32 (nm (fun j => c (((2 * p) * 32) + j)) 64))))), (w0, .inr (0, [.ref nr, .int (b2 (D || dbq n r0 p))]))])
          refine j_iinc (pc := 76) (k := 5) (v := nI (p + 1)) (lv' := [(4, .int (nI (p + 1))), (5, .int (nI (2 * p))), (0, .ref w0), (1, .int (nI n)), (2, .ref m0), (3, .int (nI ((n + 1) / 2)))]) C d_Row_putPairsTogether_76 rfl (j_inc _ _) (by decide) rfl ?_
          refine j_goto (pc := 79) (tgt := 9) C d_Row_putPairsTogether_79 rfl ?_
          refine j_lv (lv' := [(0, .ref w0), (1, .int (nI n)), (2, .ref m0), (3, .int (nI ((n + 1) / 2))), (4, .int (nI (p + 1)))]) [2, 3, 4, 5, 0] rfl ?_
          refine j_sub (ws' := [(w0, .inr (0, [.ref nr, .int (b2 (D || dbq n r0 p))])), (nr, .inl (aB g, 384, .inl (bf (putF c (p * 32) 32 (nm (fun j => c (((2 * p) * 32) + j)) 64))))), (m0, .inr (1, [.ref ms, .ref mw, .ref mf])), (ms, .inl (aI g, 8, .inl (wf d1))), (mw, .inl (aI g, 64, .inl (wf w1))), (mf, .inl (aB g, 32, .inl (bf u1)))]) (j_sb [5, 4, 0, 1, 2, 3] rfl rfl) ?_
          have eD : (D || dbq n r0 (p + 1)) = (D || dbq n r0 p) := by show (D || (dbq n r0 p || (decide (2 * p + 1 < n) && alk r0 (2 * p)))) = (D || dbq n r0 p); rw [← eal, Bool.eq_false_iff.mpr c44, Bool.and_false, Bool.or_false]
          have e := ih (p + 1) d1 w1 u1 _ (by omega) (by omega) hu1 (RInv_two (by omega) hI9)
          rw [eD] at e
          exact e
        · skip
          refine j_aload_n (pc := 47) C d_Row_putPairsTogether_47 rfl 1 rfl ?_
          refine j_iconst (pc := 48) (v := nI 1) C d_Row_putPairsTogether_48 (by decide) ?_
          refine j_put (pc := 49) (ws' := [(w0, .inr (0, [.ref nr, .int (nI 1)])), (nr, .inl (aB g, 384, .inl (bf c))), (m0, .inr (1, [.ref ms, .ref mw, .ref mf])), (ms, .inl (aI g, 8, .inl (wf d))), (mw, .inl (aI g, 64, .inl (wf w))), (mf, .inl (aB g, 32, .inl (bf u)))]) C Fp_Row_15 0 rfl (by first | rfl | decide) (by first | rfl | decide) (Nat.le_of_ble_eq_true rfl) rfl d_Row_putPairsTogether_49 ?_
          refine j_aload_n (pc := 52) C d_Row_putPairsTogether_52 rfl 3 rfl ?_
          refine j_aload_n (pc := 53) C d_Row_putPairsTogether_53 rfl 1 rfl ?_
          refine j_get (pc := 54) C F_Row_9 0 rfl rfl d_Row_putPairsTogether_54 ?_
          refine j_iload (pc := 57) C d_Row_putPairsTogether_57 0 rfl ?_
          refine j_bipush (pc := 59) (v := nI 32) C d_Row_putPairsTogether_59 (by decide) ?_
          refine j_imulN (pc := 61) C d_Row_putPairsTogether_61 ?_
          refine j_bipush (pc := 62) (v := nI 64) C d_Row_putPairsTogether_62 (by decide) ?_
          refine j_aload_n (pc := 64) C d_Row_putPairsTogether_64 rfl 1 rfl ?_
          refine j_get (pc := 65) C F_Row_9 0 rfl rfl d_Row_putPairsTogether_65 ?_
          refine j_iload (pc := 68) C d_Row_putPairsTogether_68 5 rfl ?_
          refine j_bipush (pc := 70) (v := nI 32) C d_Row_putPairsTogether_70 (by decide) ?_
          refine j_imulN (pc := 72) C d_Row_putPairsTogether_72 ?_
          refine j_callV (pc := 73) (As := [.ref nr, .int (nI ((2 * p) * 32)), .int (nI 64), .ref nr, .int (nI (p * 32))]) (rest := []) (wc := [(m0, .inr (1, [.ref ms, .ref mw, .ref mf])), (ms, .inl (aI g, 8, .inl (wf d))), (mw, .inl (aI g, 64, .inl (wf w))), (mf, .inl (aB g, 32, .inl (bf u))), (nr, .inl (aB g, 384, .inl (bf c)))]) (wr := [(w0, .inr (0, [.ref nr, .int (nI 1)]))]) C (c_Nam_writeName_same (kl κ) g m0 ms mw mf nr 384 ((2 * p) * 32) 64 (p * 32) c u d w (by omega) (hI9.2.2) (hu) (by omega) (by omega)) Y_Nam_writeName ml_Row_31 im_Nam_writeName sl_Nam_writeName rfl ⟨by decide, by decide⟩ rfl (ci := 1) (q0 := 0) rfl rfl rfl (Nat.le_of_ble_eq_true rfl) (j_sb [2, 3, 4, 5, 1, 0] rfl rfl) rfl d_Row_putPairsTogether_73 (fun r w1 hO => ?_)
          obtain ⟨d2, w2, u2, rfl, rfl, hu2⟩ := hO
          show j_V g κ 0 0 76 [(5, .int (nI (2 * p))), (0, .ref w0), (1, .int (nI n)), (2, .ref m0), (3, .int (nI ((n + 1) / 2))), (4, .int (nI p))] [] ([(m0, .inr (1, [.ref ms, .ref mw, .ref mf])), (ms, .inl (aI g, 8, .inl (wf d2))), (mw, .inl (aI g, 64, .inl (wf w2))), (mf, .inl (aB g, 32, .inl (bf u2))), (nr, .inl (aB g, 384, .inl (bf (putF c (p * 32) 32 (nm (fun j => c (((2 * p) * 32) + j)) 64))))), (w0, .inr (0, [.ref nr, .int (nI 1)]))])
          refine j_iinc (pc := 76) (k := 5) (v := nI (p + 1)) (lv' := [(4, .int (nI (p + 1))), (5, .int (nI (2 * p))), (0, .ref w0), (1, .int (nI n)), (2, .ref m0), (3, .int (nI ((n + 1) / 2)))]) C d_Row_putPairsTogether_76 rfl (j_inc _ _) (by decide) rfl ?_
          refine j_goto (pc := 79) (tgt := 9) C d_Row_putPairsTogether_79 rfl ?_
          refine j_lv (lv' := [(0, .ref w0), (1, .int (nI n)), (2, .ref m0), (3, .int (nI ((n + 1) / 2))), (4, .int (nI (p + 1)))]) [2, 3, 4, 5, 0] rfl ?_
          refine j_sub (ws' := [(w0, .inr (0, [.ref nr, .int (nI 1)])), (nr, .inl (aB g, 384, .inl (bf (putF c (p * 32) 32 (nm (fun j => c (((2 * p) * 32) + j)) 64))))), (m0, .inr (1, [.ref ms, .ref mw, .ref mf])), (ms, .inl (aI g, 8, .inl (wf d2))), (mw, .inl (aI g, 64, .inl (wf w2))), (mf, .inl (aB g, 32, .inl (bf u2)))]) (j_sb [5, 4, 0, 1, 2, 3] rfl rfl) ?_
          have eD : (D || dbq n r0 (p + 1)) = true := by show (D || (dbq n r0 p || (decide (2 * p + 1 < n) && alk r0 (2 * p)))) = true; rw [decide_eq_true (by omega), ← eal, c44, Bool.true_and, Bool.or_true, Bool.or_true]
          have e := ih (p + 1) d2 w2 u2 _ (by omega) (by omega) hu2 (RInv_two (by omega) hI9)
          rw [eD] at e
          exact e
      · skip
        refine j_aload_n (pc := 29) C d_Row_putPairsTogether_29 rfl 1 rfl ?_
        refine j_iload (pc := 30) C d_Row_putPairsTogether_30 0 rfl ?_
        refine j_callV (pc := 32) (As := [.int (nI (2 * p))]) (rest := []) (wc := [(w0, .inr (0, [.ref nr, .int (b2 (D || dbq n r0 p))])), (nr, .inl (aB g, 384, .inl (bf c)))]) (wr := [(m0, .inr (1, [.ref ms, .ref mw, .ref mf])), (ms, .inl (aI g, 8, .inl (wf d))), (mw, .inl (aI g, 64, .inl (wf w))), (mf, .inl (aB g, 32, .inl (bf u)))]) C (c_Row_repeat (kl κ) g w0 nr (2 * p) c (b2 (D || dbq n r0 p)) (by omega)) Y_Row_repeat ml_Row_23 im_Row_repeat sl_Row_repeat rfl ⟨by decide, by decide⟩ rfl (ci := 0) (q0 := 0) rfl rfl rfl (Nat.le_of_ble_eq_true rfl) (j_sb [0, 1, 2, 3, 4, 5] rfl rfl) rfl d_Row_putPairsTogether_32 (fun r w1 hO => ?_)
        obtain ⟨rfl, rfl⟩ := hO
        show j_V g κ 0 0 35 [(5, .int (nI (2 * p))), (0, .ref w0), (1, .int (nI n)), (2, .ref m0), (3, .int (nI ((n + 1) / 2))), (4, .int (nI p))] [] ([(w0, .inr (0, [.ref nr, .int (b2 (D || dbq n r0 p))])), (nr, .inl (aB g, 384, .inl (bf (putF c ((2 * p) * 32 + 32) 32 (fun k => c ((2 * p) * 32 + k)))))), (m0, .inr (1, [.ref ms, .ref mw, .ref mf])), (ms, .inl (aI g, 8, .inl (wf d))), (mw, .inl (aI g, 64, .inl (wf w))), (mf, .inl (aB g, 32, .inl (bf u)))])
        refine j_goto (pc := 35) (tgt := 52) C d_Row_putPairsTogether_35 rfl ?_
        refine j_aload_n (pc := 52) C d_Row_putPairsTogether_52 rfl 3 rfl ?_
        refine j_aload_n (pc := 53) C d_Row_putPairsTogether_53 rfl 1 rfl ?_
        refine j_get (pc := 54) C F_Row_9 0 rfl rfl d_Row_putPairsTogether_54 ?_
        refine j_iload (pc := 57) C d_Row_putPairsTogether_57 0 rfl ?_
        refine j_bipush (pc := 59) (v := nI 32) C d_Row_putPairsTogether_59 (by decide) ?_
        refine j_imulN (pc := 61) C d_Row_putPairsTogether_61 ?_
        refine j_bipush (pc := 62) (v := nI 64) C d_Row_putPairsTogether_62 (by decide) ?_
        refine j_aload_n (pc := 64) C d_Row_putPairsTogether_64 rfl 1 rfl ?_
        refine j_get (pc := 65) C F_Row_9 0 rfl rfl d_Row_putPairsTogether_65 ?_
        refine j_iload (pc := 68) C d_Row_putPairsTogether_68 5 rfl ?_
        refine j_bipush (pc := 70) (v := nI 32) C d_Row_putPairsTogether_70 (by decide) ?_
        refine j_imulN (pc := 72) C d_Row_putPairsTogether_72 ?_
        refine j_callV (pc := 73) (As := [.ref nr, .int (nI ((2 * p) * 32)), .int (nI 64), .ref nr, .int (nI (p * 32))]) (rest := []) (wc := [(m0, .inr (1, [.ref ms, .ref mw, .ref mf])), (ms, .inl (aI g, 8, .inl (wf d))), (mw, .inl (aI g, 64, .inl (wf w))), (mf, .inl (aB g, 32, .inl (bf u))), (nr, .inl (aB g, 384, .inl (bf (putF c ((2 * p) * 32 + 32) 32 (fun k => c ((2 * p) * 32 + k))))))]) (wr := [(w0, .inr (0, [.ref nr, .int (b2 (D || dbq n r0 p))]))]) C (c_Nam_writeName_same (kl κ) g m0 ms mw mf nr 384 ((2 * p) * 32) 64 (p * 32) (putF c ((2 * p) * 32 + 32) 32 (fun k => c ((2 * p) * 32 + k))) u d w (by omega) (putF_lt hI9.2.2 (fun _ => hI9.2.2 _)) (hu) (by omega) (by omega)) Y_Nam_writeName ml_Row_31 im_Nam_writeName sl_Nam_writeName rfl ⟨by decide, by decide⟩ rfl (ci := 1) (q0 := 0) rfl rfl rfl (Nat.le_of_ble_eq_true rfl) (j_sb [2, 3, 4, 5, 1, 0] rfl rfl) rfl d_Row_putPairsTogether_73 (fun r w1 hO => ?_)
        obtain ⟨d3, w3, u3, rfl, rfl, hu3⟩ := hO
        show j_V g κ 0 0 76 [(5, .int (nI (2 * p))), (0, .ref w0), (1, .int (nI n)), (2, .ref m0), (3, .int (nI ((n + 1) / 2))), (4, .int (nI p))] [] ([(m0, .inr (1, [.ref ms, .ref mw, .ref mf])), (ms, .inl (aI g, 8, .inl (wf d3))), (mw, .inl (aI g, 64, .inl (wf w3))), (mf, .inl (aB g, 32, .inl (bf u3))), (nr, .inl (aB g, 384, .inl (bf (putF (putF c ((2 * p) * 32 + 32) 32 (fun k => c ((2 * p) * 32 + k))) (p * 32) 32 (nm (fun j => (putF c ((2 * p) * 32 + 32) 32 (fun k => c ((2 * p) * 32 + k))) (((2 * p) * 32) + j)) 64))))), (w0, .inr (0, [.ref nr, .int (b2 (D || dbq n r0 p))]))])
        refine j_iinc (pc := 76) (k := 5) (v := nI (p + 1)) (lv' := [(4, .int (nI (p + 1))), (5, .int (nI (2 * p))), (0, .ref w0), (1, .int (nI n)), (2, .ref m0), (3, .int (nI ((n + 1) / 2)))]) C d_Row_putPairsTogether_76 rfl (j_inc _ _) (by decide) rfl ?_
        refine j_goto (pc := 79) (tgt := 9) C d_Row_putPairsTogether_79 rfl ?_
        refine j_lv (lv' := [(0, .ref w0), (1, .int (nI n)), (2, .ref m0), (3, .int (nI ((n + 1) / 2))), (4, .int (nI (p + 1)))]) [2, 3, 4, 5, 0] rfl ?_
        refine j_sub (ws' := [(w0, .inr (0, [.ref nr, .int (b2 (D || dbq n r0 p))])), (nr, .inl (aB g, 384, .inl (bf (putF (putF c ((2 * p) * 32 + 32) 32 (fun k => c ((2 * p) * 32 + k))) (p * 32) 32 (nm (fun j => (putF c ((2 * p) * 32 + 32) 32 (fun k => c ((2 * p) * 32 + k))) (((2 * p) * 32) + j)) 64))))), (m0, .inr (1, [.ref ms, .ref mw, .ref mf])), (ms, .inl (aI g, 8, .inl (wf d3))), (mw, .inl (aI g, 64, .inl (wf w3))), (mf, .inl (aB g, 32, .inl (bf u3)))]) (j_sb [5, 4, 0, 1, 2, 3] rfl rfl) ?_
        have eD : (D || dbq n r0 (p + 1)) = (D || dbq n r0 p) := by show (D || (dbq n r0 p || (decide (2 * p + 1 < n) && alk r0 (2 * p)))) = (D || dbq n r0 p); rw [decide_eq_false (by omega), Bool.false_and, Bool.or_false]
        have e := ih (p + 1) d3 w3 u3 _ (by omega) (by omega) hu3 (RInv_one (by omega) hI9)
        rw [eD] at e
        exact e
set_option maxHeartbeats 4000000 in
set_option maxRecDepth 100000 in
theorem c_Row_putPairsTogether (l : Launch) (g : JX) (w0 nr m0 ms mw mf n : Nat) (r0 u c : Nat → Nat) (d w : Nat → BW) (D : Bool) (hn : n ≤ 12) (hn1 : 1 < n) (hu : ∀ j, u j < 256) (hc : ∀ j, c j < 256) (hr : ∀ j, j < 32 * n → c j = r0 j) : j_Ct l y_Row_putPairsTogether b_Row_putPairsTogether 6 none rm_Row_putPairsTogether g ([(w0, .inr (0, [.ref nr, .int (b2 D)])), (nr, .inl (aB g, 384, .inl (bf c))), (m0, .inr (1, [.ref ms, .ref mw, .ref mf])), (ms, .inl (aI g, 8, .inl (wf d))), (mw, .inl (aI g, 64, .inl (wf w))), (mf, .inl (aB g, 32, .inl (bf u)))]) [.ref w0, .int (nI n), .ref m0] (fun r w1 => ∃ (d1 w2 : Nat → BW) (u1 c1 : Nat → Nat), r = none ∧ w1 = [(w0, .inr (0, [.ref nr, .int (b2 (D || dbq n r0 ((n + 1) / 2)))])), (nr, .inl (aB g, 384, .inl (bf c1))), (m0, .inr (1, [.ref ms, .ref mw, .ref mf])), (ms, .inl (aI g, 8, .inl (wf d1))), (mw, .inl (aI g, 64, .inl (wf w2))), (mf, .inl (aB g, 32, .inl (bf u1)))] ∧ (∀ j, u1 j < 256) ∧ RInv n r0 ((n + 1) / 2) c1) 0 0 := by
  refine j_ct (by decide) (Nat.le_of_ble_eq_true rfl) (fun κ hkl C hR hI => ?_)
  show j_V g κ 0 0 0 [(0, .ref w0), (1, .int (nI n)), (2, .ref m0)] [] ([(w0, .inr (0, [.ref nr, .int (b2 D)])), (nr, .inl (aB g, 384, .inl (bf c))), (m0, .inr (1, [.ref ms, .ref mw, .ref mf])), (ms, .inl (aI g, 8, .inl (wf d))), (mw, .inl (aI g, 64, .inl (wf w))), (mf, .inl (aB g, 32, .inl (bf u)))])
  refine j_iload_n (pc := 0) C d_Row_putPairsTogether_0 rfl 1 rfl ?_
  refine j_iconst (pc := 1) (v := nI 1) C d_Row_putPairsTogether_1 (by decide) ?_
  refine j_iaddN (pc := 2) C d_Row_putPairsTogether_2 ?_
  refine j_iconst (pc := 3) (v := nI 2) C d_Row_putPairsTogether_3 (by decide) ?_
  refine j_idivN (pc := 4) C (by omega) (by omega) (by omega) d_Row_putPairsTogether_4 ?_
  refine j_istore_n (pc := 5) (lv' := [(3, .int (nI ((n + 1) / 2))), (0, .ref w0), (1, .int (nI n)), (2, .ref m0)]) C d_Row_putPairsTogether_5 rfl (by decide) rfl ?_
  refine j_iconst (pc := 6) (v := nI 0) C d_Row_putPairsTogether_6 (by decide) ?_
  refine j_istore (pc := 7) (lv' := [(4, .int (nI 0)), (3, .int (nI ((n + 1) / 2))), (0, .ref w0), (1, .int (nI n)), (2, .ref m0)]) C d_Row_putPairsTogether_7 (by decide) rfl ?_
  refine j_lv (lv' := [(0, .ref w0), (1, .int (nI n)), (2, .ref m0), (3, .int (nI ((n + 1) / 2))), (4, .int (nI 0))]) [2, 3, 4, 1, 0] rfl ?_
  have e := lp_pp (w0 := w0) (nr := nr) (m0 := m0) (ms := ms) (mw := mw) (mf := mf) (n := n) (r0 := r0) (D := D) hn hn1 C hR ((n + 1) / 2 + 1) 0 d w u c (by omega) (by omega) hu ⟨fun j hj => absurd hj (by omega), fun _ j _ hj => hr j hj, hc⟩
  rw [show (D || dbq n r0 0) = D from Bool.or_false D] at e
  exact e
abbrev rm_Row_putTogether : Room := { frames := 5, cells := 0, slots := 0, locals := 132 }
set_option maxHeartbeats 4000000 in
set_option maxRecDepth 100000 in
theorem lp_pt {g : JX} {κ : JK} {w0 nr m0 ms mw mf fa n0 : Nat} {a RT : Nat → Nat} {DT : Bool}  (C : j_C g κ b_Row_putTogether R_Row rm_Row_putTogether 5) (hR : j_R g κ b_Row_putTogether none (fun r w1 => ∃ (d1 w2 : Nat → BW) (u1 c1 : Nat → Nat), r = none ∧ w1 = [(w0, .inr (0, [.ref nr, .int (b2 DT)])), (nr, .inl (aB g, 384, .inl (bf c1))), (m0, .inr (1, [.ref ms, .ref mw, .ref mf])), (ms, .inl (aI g, 8, .inl (wf d1))), (mw, .inl (aI g, 64, .inl (wf w2))), (mf, .inl (aB g, 32, .inl (bf u1))), (fa, .inl (aB g, 384, .inl (bf a)))] ∧ (∀ j, u1 j < 256) ∧ (∀ j, c1 j < 256) ∧ ∀ j, j < 32 → c1 j = RT j) 0 0) : ∀ (k : Nat) (n : Nat) (d w : Nat → BW) (u c r0 : Nat → Nat) (D : Bool), n ≤ 12 → n + 1 ≤ k → (∀ j, u j < 256) → (∀ j, c j < 256) → (∀ j, j < 32 * n → c j = r0 j) → (n = 0 → ∀ j, j < 32 → c j = RT j) → (0 < n → ∀ j, j < 32 → rwN n r0 j = RT j) → (D || dbT n r0) = DT → j_V g κ (0) (0) 78 [(0, .ref w0), (1, .ref fa), (2, .int (nI n0)), (3, .ref m0), (4, .int (nI n))] [] ([(w0, .inr (0, [.ref nr, .int (b2 D)])), (nr, .inl (aB g, 384, .inl (bf c))), (m0, .inr (1, [.ref ms, .ref mw, .ref mf])), (ms, .inl (aI g, 8, .inl (wf d))), (mw, .inl (aI g, 64, .inl (wf w))), (mf, .inl (aB g, 32, .inl (bf u))), (fa, .inl (aB g, 384, .inl (bf a)))]) := by
  intro k
  induction k with
  | zero =>
    intro n d w u c r0 D hn hk hu hc hr hz hR1 hDT
    exfalso; omega
  | succ k ih =>
    intro n d w u c r0 D hn hk hu hc hr hz hR1 hDT
    refine j_iload (pc := 78) C d_Row_putTogether_78 4 rfl ?_
    refine j_iconst (pc := 80) (v := nI 1) C d_Row_putTogether_80 (by decide) ?_
    refine j_icmp_leN (pc := 81) (tgt := 102) C (by omega) (by omega) d_Row_putTogether_81 rfl (fun c81 => ?_) (fun c81 => ?_)
    · skip
      exact hR.2.2 _ _ _ d_Row_putTogether_102 rfl (by rw [← hDT, dbT_1 c81, Bool.or_false]; exact ⟨d, w, u, c, rfl, rfl, hu, hc, fun j hj => if h0 : n = 0 then hz h0 j hj else by rw [hr j (by omega), ← hR1 (by omega) j hj, rwN_1 c81]⟩)
    · skip
      refine j_aload_n (pc := 84) C d_Row_putTogether_84 rfl 0 rfl ?_
      refine j_iload (pc := 85) C d_Row_putTogether_85 4 rfl ?_
      refine j_aload_n (pc := 87) C d_Row_putTogether_87 rfl 3 rfl ?_
      refine j_callV (pc := 88) (As := [.int (nI n), .ref m0]) (rest := []) (wc := [(w0, .inr (0, [.ref nr, .int (b2 D)])), (nr, .inl (aB g, 384, .inl (bf c))), (m0, .inr (1, [.ref ms, .ref mw, .ref mf])), (ms, .inl (aI g, 8, .inl (wf d))), (mw, .inl (aI g, 64, .inl (wf w))), (mf, .inl (aB g, 32, .inl (bf u)))]) (wr := [(fa, .inl (aB g, 384, .inl (bf a)))]) C (c_Row_putPairsTogether (kl κ) g w0 nr m0 ms mw mf n r0 u c d w D (by omega) (by omega) hu hc hr) Y_Row_putPairsTogether ml_Row_19 im_Row_putPairsTogether sl_Row_putPairsTogether rfl ⟨by decide, by decide⟩ rfl (ci := 0) (q0 := 0) rfl rfl rfl (Nat.le_of_ble_eq_true rfl) (j_sb [0, 1, 2, 3, 4, 5, 6] rfl rfl) rfl d_Row_putTogether_88 (fun r w1 hO => ?_)
      obtain ⟨d1, w2, u1, c1, rfl, rfl, hu1, hI1⟩ := hO
      show j_V g κ 0 0 91 [(0, .ref w0), (1, .ref fa), (2, .int (nI n0)), (3, .ref m0), (4, .int (nI n))] [] ([(w0, .inr (0, [.ref nr, .int (b2 (D || dbq n r0 ((n + 1) / 2)))])), (nr, .inl (aB g, 384, .inl (bf c1))), (m0, .inr (1, [.ref ms, .ref mw, .ref mf])), (ms, .inl (aI g, 8, .inl (wf d1))), (mw, .inl (aI g, 64, .inl (wf w2))), (mf, .inl (aB g, 32, .inl (bf u1))), (fa, .inl (aB g, 384, .inl (bf a)))])
      refine j_iload (pc := 91) C d_Row_putTogether_91 4 rfl ?_
      refine j_iconst (pc := 93) (v := nI 1) C d_Row_putTogether_93 (by decide) ?_
      refine j_iaddN (pc := 94) C d_Row_putTogether_94 ?_
      refine j_iconst (pc := 95) (v := nI 2) C d_Row_putTogether_95 (by decide) ?_
      refine j_idivN (pc := 96) C (by omega) (by omega) (by omega) d_Row_putTogether_96 ?_
      refine j_istore (pc := 97) (lv' := [(4, .int (nI ((n + 1) / 2))), (0, .ref w0), (1, .ref fa), (2, .int (nI n0)), (3, .ref m0)]) C d_Row_putTogether_97 (by decide) rfl ?_
      refine j_goto (pc := 99) (tgt := 78) C d_Row_putTogether_99 rfl ?_
      refine j_lv (lv' := [(0, .ref w0), (1, .ref fa), (2, .int (nI n0)), (3, .ref m0), (4, .int (nI ((n + 1) / 2)))]) [1, 2, 3, 4, 0] rfl ?_
      exact ih ((n + 1) / 2) d1 w2 u1 c1 (lvl n r0) _ (by omega) (by omega) hu1 hI1.2.2 (fun j hj => hI1.1 j hj) (fun h => absurd h (by omega)) (fun _ j hj => by rw [← rwN_s c81]; exact hR1 (by omega) j hj) (by rw [Bool.or_assoc, ← dbT_s c81]; exact hDT)
set_option maxHeartbeats 4000000 in
set_option maxRecDepth 100000 in
theorem lp_ptc {g : JX} {κ : JK} {w0 nr m0 ms mw mf fa n0 : Nat} {a RT z u : Nat → Nat} {d w : Nat → BW} {DT : Bool} (hn : n0 ≤ 12) (ha : ∀ j, a j < 256) (hz0 : ∀ j, z j < 256) (hu : ∀ j, u j < 256) (hzz : n0 = 0 → ∀ j, j < 32 → z j = RT j) (hRT : 0 < n0 → ∀ j, j < 32 → rwN n0 a j = RT j) (hDT : (false || dbT n0 a) = DT) (C : j_C g κ b_Row_putTogether R_Row rm_Row_putTogether 5) (hR : j_R g κ b_Row_putTogether none (fun r w1 => ∃ (d1 w2 : Nat → BW) (u1 c1 : Nat → Nat), r = none ∧ w1 = [(w0, .inr (0, [.ref nr, .int (b2 DT)])), (nr, .inl (aB g, 384, .inl (bf c1))), (m0, .inr (1, [.ref ms, .ref mw, .ref mf])), (ms, .inl (aI g, 8, .inl (wf d1))), (mw, .inl (aI g, 64, .inl (wf w2))), (mf, .inl (aB g, 32, .inl (bf u1))), (fa, .inl (aB g, 384, .inl (bf a)))] ∧ (∀ j, u1 j < 256) ∧ (∀ j, c1 j < 256) ∧ ∀ j, j < 32 → c1 j = RT j) 0 0) : ∀ (k : Nat) (i : Nat), i ≤ n0 * 32 → n0 * 32 + 1 ≤ i + k → j_V g κ (0) (0) 32 [(0, .ref w0), (1, .ref fa), (2, .int (nI n0)), (3, .ref m0), (4, .int (nI i))] [] ([(w0, .inr (0, [.ref nr, .int (b2 false)])), (nr, .inl (aB g, 384, .inl (bf (cpT a z i)))), (m0, .inr (1, [.ref ms, .ref mw, .ref mf])), (ms, .inl (aI g, 8, .inl (wf d))), (mw, .inl (aI g, 64, .inl (wf w))), (mf, .inl (aB g, 32, .inl (bf u))), (fa, .inl (aB g, 384, .inl (bf a)))]) := by
  intro k
  induction k with
  | zero =>
    intro i hi hk
    exfalso; omega
  | succ k ih =>
    intro i hi hk
    refine j_iload (pc := 32) C d_Row_putTogether_32 4 rfl ?_
    refine j_iload_n (pc := 34) C d_Row_putTogether_34 rfl 2 rfl ?_
    refine j_bipush (pc := 35) (v := nI 32) C d_Row_putTogether_35 (by decide) ?_
    refine j_imulN (pc := 37) C d_Row_putTogether_37 ?_
    refine j_icmp_geN (pc := 38) (tgt := 75) C (by omega) (by omega) d_Row_putTogether_38 rfl (fun c38 => ?_) (fun c38 => ?_)
    · skip
      refine j_iload_n (pc := 75) C d_Row_putTogether_75 rfl 2 rfl ?_
      refine j_istore (pc := 76) (lv' := [(4, .int (nI n0)), (0, .ref w0), (1, .ref fa), (2, .int (nI n0)), (3, .ref m0)]) C d_Row_putTogether_76 (by decide) rfl ?_
      refine j_lv (lv' := [(0, .ref w0), (1, .ref fa), (2, .int (nI n0)), (3, .ref m0), (4, .int (nI n0))]) [1, 2, 3, 4, 0] rfl ?_
      exact lp_pt (w0 := w0) (nr := nr) (m0 := m0) (ms := ms) (mw := mw) (mf := mf) (fa := fa) (n0 := n0) (a := a) (RT := RT) (DT := DT) C hR 13 n0 d w u (cpT a z i) a false hn (by omega) hu (cpT_lt ha hz0) (fun j hj => if_pos (by omega)) (fun h j hj => by rw [show i = 0 by omega, cpT_0]; exact hzz h j hj) hRT hDT
    · skip
      refine j_iload (pc := 41) C d_Row_putTogether_41 4 rfl ?_
      refine j_aload_n (pc := 43) C d_Row_putTogether_43 rfl 0 rfl ?_
      refine j_get (pc := 44) C F_Row_9 0 rfl rfl d_Row_putTogether_44 ?_
      refine j_alen (pc := 47) (v := nI 384) C 1 0 rfl rfl rfl d_Row_putTogether_47 ?_
      refine j_icmp_geN (pc := 48) (tgt := 75) C (by omega) (by omega) d_Row_putTogether_48 rfl (fun c48 => ?_) (fun c48 => ?_)
      · skip
        exfalso; omega
      · skip
        refine j_iload (pc := 51) C d_Row_putTogether_51 4 rfl ?_
        refine j_aload_n (pc := 53) C d_Row_putTogether_53 rfl 1 rfl ?_
        refine j_alen (pc := 54) (v := nI 384) C 6 0 rfl rfl rfl d_Row_putTogether_54 ?_
        refine j_icmp_geN (pc := 55) (tgt := 75) C (by omega) (by omega) d_Row_putTogether_55 rfl (fun c55 => ?_) (fun c55 => ?_)
        · skip
          exfalso; omega
        · skip
          refine j_aload_n (pc := 58) C d_Row_putTogether_58 rfl 0 rfl ?_
          refine j_get (pc := 59) C F_Row_9 0 rfl rfl d_Row_putTogether_59 ?_
          refine j_iload (pc := 62) C d_Row_putTogether_62 4 rfl ?_
          refine j_aload_n (pc := 64) C d_Row_putTogether_64 rfl 1 rfl ?_
          refine j_iload (pc := 65) C d_Row_putTogether_65 4 rfl ?_
          refine j_baldN (pc := 67) C 6 0 rfl rfl (by omega) (by omega) d_Row_putTogether_67 ?_
          refine j_bastB (pc := 68) (ws' := [(w0, .inr (0, [.ref nr, .int (b2 false)])), (nr, .inl (aB g, 384, .inl (bf (va_up (cpT a z i) i (a i))))), (m0, .inr (1, [.ref ms, .ref mw, .ref mf])), (ms, .inl (aI g, 8, .inl (wf d))), (mw, .inl (aI g, 64, .inl (wf w))), (mf, .inl (aB g, 32, .inl (bf u))), (fa, .inl (aB g, 384, .inl (bf a)))]) C 1 0 rfl rfl (by omega) (by omega) (sb_nar _) rfl d_Row_putTogether_68 ?_
          refine j_iinc (pc := 69) (k := 4) (v := nI (i + 1)) (lv' := [(4, .int (nI (i + 1))), (0, .ref w0), (1, .ref fa), (2, .int (nI n0)), (3, .ref m0)]) C d_Row_putTogether_69 rfl (j_inc _ _) (by decide) rfl ?_
          refine j_goto (pc := 72) (tgt := 32) C d_Row_putTogether_72 rfl ?_
          refine j_lv (lv' := [(0, .ref w0), (1, .ref fa), (2, .int (nI n0)), (3, .ref m0), (4, .int (nI (i + 1)))]) [1, 2, 3, 4, 0] rfl ?_
          have e := ih (i + 1) (by omega) (by omega)
          rw [← cpT_s] at e
          exact e
set_option maxHeartbeats 4000000 in
set_option maxRecDepth 100000 in
theorem lp_ptz {g : JX} {κ : JK} {w0 nr m0 ms mw mf fa n0 : Nat} {a RT c u : Nat → Nat} {d w : Nat → BW} {DT : Bool} (hn : n0 ≤ 12) (ha : ∀ j, a j < 256) (hc : ∀ j, c j < 256) (hu : ∀ j, u j < 256) (hz0 : n0 = 0 → ∀ j, j < 32 → 0 = RT j) (hRT : 0 < n0 → ∀ j, j < 32 → rwN n0 a j = RT j) (hDT : (false || dbT n0 a) = DT) (C : j_C g κ b_Row_putTogether R_Row rm_Row_putTogether 5) (hR : j_R g κ b_Row_putTogether none (fun r w1 => ∃ (d1 w2 : Nat → BW) (u1 c1 : Nat → Nat), r = none ∧ w1 = [(w0, .inr (0, [.ref nr, .int (b2 DT)])), (nr, .inl (aB g, 384, .inl (bf c1))), (m0, .inr (1, [.ref ms, .ref mw, .ref mf])), (ms, .inl (aI g, 8, .inl (wf d1))), (mw, .inl (aI g, 64, .inl (wf w2))), (mf, .inl (aB g, 32, .inl (bf u1))), (fa, .inl (aB g, 384, .inl (bf a)))] ∧ (∀ j, u1 j < 256) ∧ (∀ j, c1 j < 256) ∧ ∀ j, j < 32 → c1 j = RT j) 0 0) : ∀ (k : Nat) (i : Nat), i ≤ 32 → 33 ≤ i + k → j_V g κ (0) (0) 8 [(0, .ref w0), (1, .ref fa), (2, .int (nI n0)), (3, .ref m0), (4, .int (nI i))] [] ([(w0, .inr (0, [.ref nr, .int (b2 false)])), (nr, .inl (aB g, 384, .inl (bf (putF c 0 i (fun _ => 0))))), (m0, .inr (1, [.ref ms, .ref mw, .ref mf])), (ms, .inl (aI g, 8, .inl (wf d))), (mw, .inl (aI g, 64, .inl (wf w))), (mf, .inl (aB g, 32, .inl (bf u))), (fa, .inl (aB g, 384, .inl (bf a)))]) := by
  intro k
  induction k with
  | zero =>
    intro i hi hk
    exfalso; omega
  | succ k ih =>
    intro i hi hk
    refine j_iload (pc := 8) C d_Row_putTogether_8 4 rfl ?_
    refine j_bipush (pc := 10) (v := nI 32) C d_Row_putTogether_10 (by decide) ?_
    refine j_icmp_geN (pc := 12) (tgt := 29) C (by omega) (by omega) d_Row_putTogether_12 rfl (fun c12 => ?_) (fun c12 => ?_)
    · skip
      refine j_iconst (pc := 29) (v := nI 0) C d_Row_putTogether_29 (by decide) ?_
      refine j_istore (pc := 30) (lv' := [(4, .int (nI 0)), (0, .ref w0), (1, .ref fa), (2, .int (nI n0)), (3, .ref m0)]) C d_Row_putTogether_30 (by decide) rfl ?_
      refine j_lv (lv' := [(0, .ref w0), (1, .ref fa), (2, .int (nI n0)), (3, .ref m0), (4, .int (nI 0))]) [1, 2, 3, 4, 0] rfl ?_
      have e := lp_ptc (w0 := w0) (nr := nr) (m0 := m0) (ms := ms) (mw := mw) (mf := mf) (fa := fa) (n0 := n0) (a := a) (RT := RT) (z := putF c 0 i (fun _ => 0)) (u := u) (d := d) (w := w) (DT := DT) hn ha (putF_lt hc (fun _ => by decide)) hu (fun h j hj => by rw [← hz0 h j hj]; have := putF_at (t := c) (n := 0) (m := i) (s := fun _ => 0) (j := j) (by omega); rw [Nat.zero_add] at this; exact this) hRT hDT C hR (n0 * 32 + 1) 0 (by omega) (by omega)
      rw [cpT_0] at e
      exact e
    · skip
      refine j_aload_n (pc := 15) C d_Row_putTogether_15 rfl 0 rfl ?_
      refine j_get (pc := 16) C F_Row_9 0 rfl rfl d_Row_putTogether_16 ?_
      refine j_iload (pc := 19) C d_Row_putTogether_19 4 rfl ?_
      refine j_iconst (pc := 21) (v := nI 0) C d_Row_putTogether_21 (by decide) ?_
      refine j_rwi (y := sb_b 0) rfl ?_
      refine j_bastB (pc := 22) (ws' := [(w0, .inr (0, [.ref nr, .int (b2 false)])), (nr, .inl (aB g, 384, .inl (bf (va_up (putF c 0 i (fun _ => 0)) i 0)))), (m0, .inr (1, [.ref ms, .ref mw, .ref mf])), (ms, .inl (aI g, 8, .inl (wf d))), (mw, .inl (aI g, 64, .inl (wf w))), (mf, .inl (aB g, 32, .inl (bf u))), (fa, .inl (aB g, 384, .inl (bf a)))]) C 1 0 rfl rfl (by omega) (by omega) (sb_nar _) rfl d_Row_putTogether_22 ?_
      refine j_iinc (pc := 23) (k := 4) (v := nI (i + 1)) (lv' := [(4, .int (nI (i + 1))), (0, .ref w0), (1, .ref fa), (2, .int (nI n0)), (3, .ref m0)]) C d_Row_putTogether_23 rfl (j_inc _ _) (by decide) rfl ?_
      refine j_goto (pc := 26) (tgt := 8) C d_Row_putTogether_26 rfl ?_
      refine j_lv (lv' := [(0, .ref w0), (1, .ref fa), (2, .int (nI n0)), (3, .ref m0), (4, .int (nI (i + 1)))]) [1, 2, 3, 4, 0] rfl ?_
      have e := ih (i + 1) (by omega) (by omega)
      rw [← putF_s, Nat.zero_add] at e
      exact e
set_option maxHeartbeats 4000000 in
set_option maxRecDepth 100000 in
theorem c_Row_putTogether (l : Launch) (g : JX) (w0 nr m0 ms mw mf fa n0 : Nat) (a c u : Nat → Nat) (d w : Nat → BW) (x : Int32) (hn : n0 ≤ 12) (ha : ∀ j, a j < 256) (hc : ∀ j, c j < 256) (hu : ∀ j, u j < 256) : j_Ct l y_Row_putTogether b_Row_putTogether 5 none rm_Row_putTogether g ([(w0, .inr (0, [.ref nr, .int x])), (nr, .inl (aB g, 384, .inl (bf c))), (m0, .inr (1, [.ref ms, .ref mw, .ref mf])), (ms, .inl (aI g, 8, .inl (wf d))), (mw, .inl (aI g, 64, .inl (wf w))), (mf, .inl (aB g, 32, .inl (bf u))), (fa, .inl (aB g, 384, .inl (bf a)))]) [.ref w0, .ref fa, .int (nI n0), .ref m0] (fun r w1 => ∃ (d1 w2 : Nat → BW) (u1 c1 : Nat → Nat), r = none ∧ w1 = [(w0, .inr (0, [.ref nr, .int (b2 (dbT n0 a))])), (nr, .inl (aB g, 384, .inl (bf c1))), (m0, .inr (1, [.ref ms, .ref mw, .ref mf])), (ms, .inl (aI g, 8, .inl (wf d1))), (mw, .inl (aI g, 64, .inl (wf w2))), (mf, .inl (aB g, 32, .inl (bf u1))), (fa, .inl (aB g, 384, .inl (bf a)))] ∧ (∀ j, u1 j < 256) ∧ (∀ j, c1 j < 256) ∧ ∀ j, j < 32 → c1 j = (fun j => if n0 = 0 then 0 else rwN n0 a j) j) 0 0 := by
  refine j_ct (by decide) (Nat.le_of_ble_eq_true rfl) (fun κ hkl C hR hI => ?_)
  show j_V g κ 0 0 0 [(0, .ref w0), (1, .ref fa), (2, .int (nI n0)), (3, .ref m0)] [] ([(w0, .inr (0, [.ref nr, .int x])), (nr, .inl (aB g, 384, .inl (bf c))), (m0, .inr (1, [.ref ms, .ref mw, .ref mf])), (ms, .inl (aI g, 8, .inl (wf d))), (mw, .inl (aI g, 64, .inl (wf w))), (mf, .inl (aB g, 32, .inl (bf u))), (fa, .inl (aB g, 384, .inl (bf a)))])
  refine j_aload_n (pc := 0) C d_Row_putTogether_0 rfl 0 rfl ?_
  refine j_iconst (pc := 1) (v := nI 0) C d_Row_putTogether_1 (by decide) ?_
  refine j_put (pc := 2) (ws' := [(w0, .inr (0, [.ref nr, .int (nI 0)])), (nr, .inl (aB g, 384, .inl (bf c))), (m0, .inr (1, [.ref ms, .ref mw, .ref mf])), (ms, .inl (aI g, 8, .inl (wf d))), (mw, .inl (aI g, 64, .inl (wf w))), (mf, .inl (aB g, 32, .inl (bf u))), (fa, .inl (aB g, 384, .inl (bf a)))]) C Fp_Row_15 0 rfl (by first | rfl | decide) (by first | rfl | decide) (Nat.le_of_ble_eq_true rfl) rfl d_Row_putTogether_2 ?_
  refine j_iconst (pc := 5) (v := nI 0) C d_Row_putTogether_5 (by decide) ?_
  refine j_istore (pc := 6) (lv' := [(4, .int (nI 0)), (0, .ref w0), (1, .ref fa), (2, .int (nI n0)), (3, .ref m0)]) C d_Row_putTogether_6 (by decide) rfl ?_
  refine j_lv (lv' := [(0, .ref w0), (1, .ref fa), (2, .int (nI n0)), (3, .ref m0), (4, .int (nI 0))]) [1, 2, 3, 4, 0] rfl ?_
  have e := lp_ptz (w0 := w0) (nr := nr) (m0 := m0) (ms := ms) (mw := mw) (mf := mf) (fa := fa) (n0 := n0) (a := a) (RT := fun j => if n0 = 0 then 0 else rwN n0 a j) (c := c) (u := u) (d := d) (w := w) (DT := dbT n0 a) hn ha hc hu (fun h j _ => by rw [if_pos h]) (fun h j _ => by rw [if_neg (by omega)]) (Bool.false_or _) C hR 33 0 (by omega) (by omega)
  rw [putF_0] at e
  exact e
abbrev rm_Row_init : Room := { frames := 1, cells := 1, slots := 384, locals := 20 }
set_option maxHeartbeats 4000000 in
set_option maxRecDepth 100000 in
theorem c_Row_init (l : Launch) (g : JX) (w0 : Nat)  : j_Ct l y_Row_init b_Row_init 1 none rm_Row_init g ([(w0, .inr (0, [.null, .int (0 : Int32)]))]) [.ref w0] (fun r w1 => ∃ nr : Nat, r = none ∧ w1 = [(w0, .inr (0, [.ref nr, .int (b2 false)])), (nr, .inl (aB g, 384, .inl (bf (fun _ => 0))))]) 1 384 := by
  refine j_ct (by decide) (Nat.le_of_ble_eq_true rfl) (fun κ hkl C hR hI => ?_)
  show j_V g κ 0 0 0 [(0, .ref w0)] [] ([(w0, .inr (0, [.null, .int (0 : Int32)]))])
  refine j_aload_n (pc := 0) C d_Row_init_0 rfl 0 rfl ?_
  refine j_objInit (pc := 1) C oi_Row_3 oi_i oi_c (by decide) (Nat.le_of_ble_eq_true rfl) d_Row_init_1 ?_
  refine j_aload_n (pc := 4) C d_Row_init_4 rfl 0 rfl ?_
  refine j_sipush (pc := 5) (v := nI 384) C d_Row_init_5 (by decide) ?_
  refine j_newa (pc := 8) (atype := .byte) (a0 := (384, .inl (bf (fun _ => 0)))) C ac_byte rfl (by intro c h; cases h) 0 rfl (fun _ => rfl) (by decide) (by decide) (by decide) (by decide) (by decide) d_Row_init_8 (fun nr => ?_)
  show j_V g κ 1 384 10 [(0, .ref w0)] [.ref nr, .ref w0] ([(w0, .inr (0, [.null, .int (0 : Int32)])), (nr, .inl (aB g, 384, .inl (bf (fun _ => 0))))])
  refine j_putF (pc := 10) (ws' := [(w0, .inr (0, [.ref nr, .int (0 : Int32)])), (nr, .inl (aB g, 384, .inl (bf (fun _ => 0))))]) C hI Fp_Row_9 0 rfl rfl (by first | rfl | decide) (Nat.le_of_ble_eq_true rfl) rfl d_Row_init_10 ?_
  refine j_aload_n (pc := 13) C d_Row_init_13 rfl 0 rfl ?_
  refine j_iconst (pc := 14) (v := nI 0) C d_Row_init_14 (by decide) ?_
  refine j_put (pc := 15) (ws' := [(w0, .inr (0, [.ref nr, .int (nI 0)])), (nr, .inl (aB g, 384, .inl (bf (fun _ => 0))))]) C Fp_Row_15 0 rfl (by first | rfl | decide) (by first | rfl | decide) (Nat.le_of_ble_eq_true rfl) rfl d_Row_init_15 ?_
  exact hR.2.2 _ _ _ d_Row_init_18 rfl (⟨nr, rfl, rfl⟩)
