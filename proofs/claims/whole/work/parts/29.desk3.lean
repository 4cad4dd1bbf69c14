abbrev rm_Dsk_eightBytes : Room := { frames := 0, cells := 0, slots := 0, locals := 0 }
set_option maxHeartbeats 4000000 in
set_option maxRecDepth 100000 in
theorem lp_eb {g : JX} {κ : JK} {sa N0 p : Nat} {v : Nat → Nat} (hN : N0 ≤ 2000) (hT : ∀ j, v j < 256) (hp : p + 8 ≤ N0) (C : j_C g κ b_Dsk_eightBytes R_Dsk rm_Dsk_eightBytes 5) (hR : j_R g κ b_Dsk_eightBytes (some .long) (fun r w => r = some (.long (lN (be v p 8))) ∧ w = [(sa, .inl (aB g, N0, .inl (bf v)))]) 0 0) : ∀ (k : Nat) (i : Nat), i ≤ 8 → 9 ≤ i + k → j_V g κ (0) (0) 20 [(0, .ref sa), (1, .int (nI p)), (2, .long (lN (be v p i))), (4, .int (nI i))] [] ([(sa, .inl (aB g, N0, .inl (bf v)))]) := by
  intro k
  induction k with
  | zero =>
    intro i hi hk
    exfalso; omega
  | succ k ih =>
    intro i hi hk
    refine j_iload (pc := 20) C d_Dsk_eightBytes_20 3 rfl ?_
    refine j_bipush (pc := 22) (v := nI 8) C d_Dsk_eightBytes_22 (by decide) ?_
    refine j_icmp_geN (pc := 24) (tgt := 50) C (by omega) (by omega) d_Dsk_eightBytes_24 rfl (fun c24 => ?_) (fun c24 => ?_)
    · skip
      refine j_lload_n (pc := 50) C d_Dsk_eightBytes_50 rfl 2 rfl ?_
      exact hR.2.1 _ _ _ _ d_Dsk_eightBytes_51 rfl (⟨by rw [show i = 8 by omega], rfl⟩)
    · skip
      refine j_lload_n (pc := 27) C d_Dsk_eightBytes_27 rfl 2 rfl ?_
      refine j_bipush (pc := 28) (v := nI 8) C d_Dsk_eightBytes_28 (by decide) ?_
      refine j_lshl (pc := 30) (v := (lN (be v p i)) <<< ((nI 8).toInt64 &&& 63)) C d_Dsk_eightBytes_30 rfl ?_
      refine j_aload_n (pc := 31) C d_Dsk_eightBytes_31 rfl 0 rfl ?_
      refine j_iload_n (pc := 32) C d_Dsk_eightBytes_32 rfl 1 rfl ?_
      refine j_iload (pc := 33) C d_Dsk_eightBytes_33 3 rfl ?_
      refine j_iaddN (pc := 35) C d_Dsk_eightBytes_35 ?_
      refine j_baldN (pc := 36) C 0 0 rfl rfl (by omega) (by omega) d_Dsk_eightBytes_36 ?_
      refine j_sipush (pc := 37) (v := nI 255) C d_Dsk_eightBytes_37 (by decide) ?_
      refine j_iand (pc := 40) C d_Dsk_eightBytes_40 ?_
      refine j_rwi (y := nI (v (p + i))) (sb_and (by first | exact hT _ | omega)) ?_
      refine j_i2l (pc := 41) (v := lN (v (p + i))) C d_Dsk_eightBytes_41 (nI_l (by have h9 := hT (p + i); omega)) ?_
      refine j_lor (pc := 42) C d_Dsk_eightBytes_42 ?_
      refine j_rwl (y := lN (be v p (i + 1))) (be_push hT (by omega)) ?_
      refine j_lstore_n (pc := 43) (lv' := [(2, .long (lN (be v p (i + 1)))), (0, .ref sa), (1, .int (nI p)), (4, .int (nI i))]) C d_Dsk_eightBytes_43 rfl (by decide) rfl ?_
      refine j_iinc (pc := 44) (k := 3) (v := nI (i + 1)) (lv' := [(4, .int (nI (i + 1))), (2, .long (lN (be v p (i + 1)))), (0, .ref sa), (1, .int (nI p))]) C d_Dsk_eightBytes_44 rfl (j_inc _ _) (by decide) rfl ?_
      refine j_goto (pc := 47) (tgt := 20) C d_Dsk_eightBytes_47 rfl ?_
      refine j_lv (lv' := [(0, .ref sa), (1, .int (nI p)), (2, .long (lN (be v p (i + 1)))), (4, .int (nI (i + 1)))]) [2, 3, 1, 0] rfl ?_
      exact ih (i + 1) (by omega) (by omega)
set_option maxHeartbeats 4000000 in
set_option maxRecDepth 100000 in
theorem c_Dsk_eightBytes (l : Launch) (g : JX) (sa N0 p : Nat) (v : Nat → Nat) (hN : N0 ≤ 2000) (hT : ∀ j, v j < 256) (hp : p + 8 ≤ N0) : j_Ct l y_Dsk_eightBytes b_Dsk_eightBytes 5 (some .long) rm_Dsk_eightBytes g ([(sa, .inl (aB g, N0, .inl (bf v)))]) [.ref sa, .int (nI p)] (fun r w => r = some (.long (lN (be v p 8))) ∧ w = [(sa, .inl (aB g, N0, .inl (bf v)))]) 0 0 := by
  refine j_ct (by decide) (Nat.le_of_ble_eq_true rfl) (fun κ hkl C hR hI => ?_)
  show j_V g κ 0 0 0 [(0, .ref sa), (1, .int (nI p))] [] ([(sa, .inl (aB g, N0, .inl (bf v)))])
  refine j_iload_n (pc := 0) C d_Dsk_eightBytes_0 rfl 1 rfl ?_
  refine j_if_ltN (pc := 1) (tgt := 13) C (by omega) d_Dsk_eightBytes_1 rfl ?_
  refine j_iload_n (pc := 4) C d_Dsk_eightBytes_4 rfl 1 rfl ?_
  refine j_aload_n (pc := 5) C d_Dsk_eightBytes_5 rfl 0 rfl ?_
  refine j_alen (pc := 6) (v := nI N0) C 0 0 rfl rfl rfl d_Dsk_eightBytes_6 ?_
  refine j_bipush (pc := 7) (v := nI 8) C d_Dsk_eightBytes_7 (by decide) ?_
  refine j_isubN (pc := 9) C (by omega) d_Dsk_eightBytes_9 ?_
  refine j_icmp_leN (pc := 10) (tgt := 15) C (by omega) (by omega) d_Dsk_eightBytes_10 rfl (fun c10 => ?_) (fun c10 => ?_)
  · skip
    refine j_lconst (pc := 15) (v := 0) C d_Dsk_eightBytes_15 (by decide) ?_
    refine j_lstore_n (pc := 16) (lv' := [(2, .long (0 : Int64)), (0, .ref sa), (1, .int (nI p))]) C d_Dsk_eightBytes_16 rfl (by decide) rfl ?_
    refine j_iconst (pc := 17) (v := nI 0) C d_Dsk_eightBytes_17 (by decide) ?_
    refine j_istore (pc := 18) (lv' := [(4, .int (nI 0)), (2, .long (0 : Int64)), (0, .ref sa), (1, .int (nI p))]) C d_Dsk_eightBytes_18 (by decide) rfl ?_
    refine j_lv (lv' := [(0, .ref sa), (1, .int (nI p)), (2, .long (0 : Int64)), (4, .int (nI 0))]) [2, 3, 1, 0] rfl ?_
    exact lp_eb (sa := sa) (N0 := N0) (p := p) (v := v) hN hT hp C hR 9 0 (by omega) (by omega)
  · skip
    exfalso; omega
theorem n3 (k : Nat) (h : k < 4) : nI k ≤ nI 3 := nI_le (by omega) (by decide)
theorem nm_off {u k : Nat} (hu : u < 12) (hk : k < 4) : u * 32 + 8 * k + 8 ≤ 384 := by omega
theorem ts3 {x : Int32} (h1 : ¬ x = -1) (h2 : ¬ x = -2) (h3 : ¬ x = -3) : x.toInt < -3 ∨ -1 < x.toInt := by
  have e1 := lv_neT (k := -1) (a := -1) h1 rfl
  have e2 := lv_neT (k := -2) (a := -2) h2 rfl
  have e3 := lv_neT (k := -3) (a := -3) h3 rfl
  omega
theorem nmR_B {blk : Bool} {cnt : Nat} {A : Nat → Nat → Nat} {B R t : Nat → Nat} {k : Nat} (h : k < 4) (hb : blk = true) : nmR blk cnt A B R t (-1) (nI k) = lN (be B (8 * k) 8) := by
  rw [nmR_k h, if_neg (fun q => absurd q.1 (by decide)), if_pos hb, if_pos rfl]
theorem nmR_T {blk : Bool} {cnt : Nat} {A : Nat → Nat → Nat} {B R t : Nat → Nat} {k : Nat} (h : k < 4) (hb : blk = true) : nmR blk cnt A B R t (-2) (nI k) = lN (be t (36 + 8 * k) 8) := by
  rw [nmR_k h, if_neg (fun q => absurd q.1 (by decide)), if_pos hb, if_neg (by decide), if_pos rfl]
theorem nmR_R {blk : Bool} {cnt : Nat} {A : Nat → Nat → Nat} {B R t : Nat → Nat} {k : Nat} (h : k < 4) (hb : blk = true) : nmR blk cnt A B R t (-3) (nI k) = lN (be R (8 * k) 8) := by
  rw [nmR_k h, if_neg (fun q => absurd q.1 (by decide)), if_pos hb, if_neg (by decide), if_neg (by decide), if_pos rfl]
theorem nmR_n {blk : Bool} {cnt : Nat} {A : Nat → Nat → Nat} {B R t : Nat → Nat} {k : Nat} {tt : Int32} (h : k < 4) (c : ¬ (0 ≤ tt ∧ tt < nI cnt)) (hb : ¬ blk = true) : nmR blk cnt A B R t tt (nI k) = 0 := by
  rw [nmR_k h, if_neg c, if_neg hb]
theorem nmR_o {blk : Bool} {cnt : Nat} {A : Nat → Nat → Nat} {B R t : Nat → Nat} {k : Nat} {tt : Int32} (h : k < 4) (c : ¬ (0 ≤ tt ∧ tt < nI cnt)) (h1 : ¬ tt = -1) (h2 : ¬ tt = -2) (h3 : ¬ tt = -3) : nmR blk cnt A B R t tt (nI k) = 0 := by
  rw [nmR_k h, if_neg c, if_neg h1, if_neg h2, if_neg h3]
  split <;> rfl
theorem ne_big {cnt : Nat} {tt : Int32} {z : Int32} (hc : cnt < 2 ^ 31) (h : nI cnt ≤ tt) (hz : z.toInt < 0) : ¬ tt = z := by
  intro e
  rw [e, Int32.le_iff_toInt_le, nI_toInt hc] at h
  omega
abbrev rm_Dsk_name : Room := { frames := 1, cells := 0, slots := 0, locals := 24 }
set_option maxHeartbeats 4000000 in
set_option maxRecDepth 100000 in
theorem c_Dsk_name (l : Launch) (g : JX) (x0 tw tk r0 m0 ha tn bn w0 cnt : Nat) (blk : Bool) (pl : Int32) (kb nr n : Nat) (t v v2 c B R : Nat → Nat) (A : Nat → Nat → Nat) (dbv tt k0 : Int32) (hn : n ≤ 2000) (hT : ∀ j, t j < 256) (hv : ∀ j, v j < 256) (hv2 : ∀ j, v2 j < 256) (hc0 : ∀ j, c j < 256) (hc : cnt ≤ 12) (hnm : ∀ u, u < cnt → ∀ j, j < 32 → v (u * 32 + j) = A u j) (hbn : blk = true → ∀ j, j < 32 → v2 j = B j) (hrt : blk = true → ∀ j, j < 32 → c j = R j) : j_Ct l y_Dsk_name b_Dsk_name 3 (some .long) rm_Dsk_name g ([(x0, .inr (5, [.ref tw, .ref r0, .ref tk, .ref m0, .ref ha, .int (nI cnt), .int (if blk = true then (1 : Int32) else 0), .int pl, .ref tn, .ref bn, .ref w0])), (tk, .inr (3, [.ref kb, .int (nI n)])), (kb, .inl (aB g, 2000, .inl (bf t))), (tn, .inl (aB g, 384, .inl (bf v))), (bn, .inl (aB g, 32, .inl (bf v2))), (w0, .inr (0, [.ref nr, .int dbv])), (nr, .inl (aB g, 384, .inl (bf c)))]) [.ref x0, .int tt, .int k0] (fun r w => r = some (.long (nmR blk cnt A B R t tt k0)) ∧ w = [(x0, .inr (5, [.ref tw, .ref r0, .ref tk, .ref m0, .ref ha, .int (nI cnt), .int (b2 blk), .int pl, .ref tn, .ref bn, .ref w0])), (tk, .inr (3, [.ref kb, .int (nI n)])), (kb, .inl (aB g, 2000, .inl (bf t))), (tn, .inl (aB g, 384, .inl (bf v))), (bn, .inl (aB g, 32, .inl (bf v2))), (w0, .inr (0, [.ref nr, .int dbv])), (nr, .inl (aB g, 384, .inl (bf c)))]) 0 0 := by
  refine j_ct (by decide) (Nat.le_of_ble_eq_true rfl) (fun κ hkl C hR hI => ?_)
  show j_V g κ 0 0 0 [(0, .ref x0), (1, .int tt), (2, .int k0)] [] ([(x0, .inr (5, [.ref tw, .ref r0, .ref tk, .ref m0, .ref ha, .int (nI cnt), .int (if blk = true then (1 : Int32) else 0), .int pl, .ref tn, .ref bn, .ref w0])), (tk, .inr (3, [.ref kb, .int (nI n)])), (kb, .inl (aB g, 2000, .inl (bf t))), (tn, .inl (aB g, 384, .inl (bf v))), (bn, .inl (aB g, 32, .inl (bf v2))), (w0, .inr (0, [.ref nr, .int dbv])), (nr, .inl (aB g, 384, .inl (bf c)))])
  rcases pk_ix k0 (n := 4) (by decide) with hk | hk | ⟨k, hk, rfl⟩
  · skip
    show j_V g κ 0 0 0 [(0, .ref x0), (1, .int tt), (2, .int k0)] [] ([(x0, .inr (5, [.ref tw, .ref r0, .ref tk, .ref m0, .ref ha, .int (nI cnt), .int (if blk = true then (1 : Int32) else 0), .int pl, .ref tn, .ref bn, .ref w0])), (tk, .inr (3, [.ref kb, .int (nI n)])), (kb, .inl (aB g, 2000, .inl (bf t))), (tn, .inl (aB g, 384, .inl (bf v))), (bn, .inl (aB g, 32, .inl (bf v2))), (w0, .inr (0, [.ref nr, .int dbv])), (nr, .inl (aB g, 384, .inl (bf c)))])
    refine j_iload_n (pc := 0) C d_Dsk_name_0 rfl 2 rfl ?_
    refine j_if_lt (pc := 1) (tgt := 9) C d_Dsk_name_1 rfl (fun c1 => ?_) (fun c1 => ?_)
    · skip
      refine j_lconst (pc := 9) (v := 0) C d_Dsk_name_9 (by decide) ?_
      exact hR.2.1 _ _ _ _ d_Dsk_name_10 rfl (⟨by first | rw [nmR_kneg hk] | rw [nmR_kbig hk] | rw [nmR_in hk hu (by omega), ← be_cg (v := v) (u := A u) (p := u * 32 + 8 * k) (q := 8 * k) 8 (fun j hj => by rw [Nat.add_assoc]; exact hnm u hu (8 * k + j) (by omega))] | rw [nmR_n hk c16 c40] | rw [nmR_B hk c40, ← be_cg (v := v2) (p := 8 * k) 8 (fun j hj => hbn c40 (8 * k + j) (by omega))] | rw [nmR_T hk c40] | rw [nmR_R hk c40, ← be_cg (v := c) (p := 8 * k) 8 (fun j hj => hrt c40 (8 * k + j) (by omega))] | rw [nmR_o hk c16 e1 e2 e3] | rw [nmR_o hk c16 (ne_big (by omega) hu (by decide)) (ne_big (by omega) hu (by decide)) (ne_big (by omega) hu (by decide))], rfl⟩)
    · skip
      refine j_iload_n (pc := 4) C d_Dsk_name_4 rfl 2 rfl ?_
      refine j_iconst (pc := 5) (v := nI 3) C d_Dsk_name_5 (by decide) ?_
      refine j_icmp_le (pc := 6) (tgt := 11) C d_Dsk_name_6 rfl (fun c6 => ?_) (fun c6 => ?_)
      · skip
        exfalso
        rw [Int32.le_iff_toInt_le, nI_toInt (by decide)] at c6
        first | exact absurd hk c1 | (rw [Int32.le_iff_toInt_le, nI_toInt (by decide)] at hk; omega)
      · skip
        refine j_lconst (pc := 9) (v := 0) C d_Dsk_name_9 (by decide) ?_
        exact hR.2.1 _ _ _ _ d_Dsk_name_10 rfl (⟨by first | rw [nmR_kneg hk] | rw [nmR_kbig hk] | rw [nmR_in hk hu (by omega), ← be_cg (v := v) (u := A u) (p := u * 32 + 8 * k) (q := 8 * k) 8 (fun j hj => by rw [Nat.add_assoc]; exact hnm u hu (8 * k + j) (by omega))] | rw [nmR_n hk c16 c40] | rw [nmR_B hk c40, ← be_cg (v := v2) (p := 8 * k) 8 (fun j hj => hbn c40 (8 * k + j) (by omega))] | rw [nmR_T hk c40] | rw [nmR_R hk c40, ← be_cg (v := c) (p := 8 * k) 8 (fun j hj => hrt c40 (8 * k + j) (by omega))] | rw [nmR_o hk c16 e1 e2 e3] | rw [nmR_o hk c16 (ne_big (by omega) hu (by decide)) (ne_big (by omega) hu (by decide)) (ne_big (by omega) hu (by decide))], rfl⟩)
  · skip
    show j_V g κ 0 0 0 [(0, .ref x0), (1, .int tt), (2, .int k0)] [] ([(x0, .inr (5, [.ref tw, .ref r0, .ref tk, .ref m0, .ref ha, .int (nI cnt), .int (if blk = true then (1 : Int32) else 0), .int pl, .ref tn, .ref bn, .ref w0])), (tk, .inr (3, [.ref kb, .int (nI n)])), (kb, .inl (aB g, 2000, .inl (bf t))), (tn, .inl (aB g, 384, .inl (bf v))), (bn, .inl (aB g, 32, .inl (bf v2))), (w0, .inr (0, [.ref nr, .int dbv])), (nr, .inl (aB g, 384, .inl (bf c)))])
    refine j_iload_n (pc := 0) C d_Dsk_name_0 rfl 2 rfl ?_
    refine j_if_lt (pc := 1) (tgt := 9) C d_Dsk_name_1 rfl (fun c1 => ?_) (fun c1 => ?_)
    · skip
      refine j_lconst (pc := 9) (v := 0) C d_Dsk_name_9 (by decide) ?_
      exact hR.2.1 _ _ _ _ d_Dsk_name_10 rfl (⟨by first | rw [nmR_kneg hk] | rw [nmR_kbig hk] | rw [nmR_in hk hu (by omega), ← be_cg (v := v) (u := A u) (p := u * 32 + 8 * k) (q := 8 * k) 8 (fun j hj => by rw [Nat.add_assoc]; exact hnm u hu (8 * k + j) (by omega))] | rw [nmR_n hk c16 c40] | rw [nmR_B hk c40, ← be_cg (v := v2) (p := 8 * k) 8 (fun j hj => hbn c40 (8 * k + j) (by omega))] | rw [nmR_T hk c40] | rw [nmR_R hk c40, ← be_cg (v := c) (p := 8 * k) 8 (fun j hj => hrt c40 (8 * k + j) (by omega))] | rw [nmR_o hk c16 e1 e2 e3] | rw [nmR_o hk c16 (ne_big (by omega) hu (by decide)) (ne_big (by omega) hu (by decide)) (ne_big (by omega) hu (by decide))], rfl⟩)
    · skip
      refine j_iload_n (pc := 4) C d_Dsk_name_4 rfl 2 rfl ?_
      refine j_iconst (pc := 5) (v := nI 3) C d_Dsk_name_5 (by decide) ?_
      refine j_icmp_le (pc := 6) (tgt := 11) C d_Dsk_name_6 rfl (fun c6 => ?_) (fun c6 => ?_)
      · skip
        exfalso
        rw [Int32.le_iff_toInt_le, nI_toInt (by decide)] at c6
        first | exact absurd hk c1 | (rw [Int32.le_iff_toInt_le, nI_toInt (by decide)] at hk; omega)
      · skip
        refine j_lconst (pc := 9) (v := 0) C d_Dsk_name_9 (by decide) ?_
        exact hR.2.1 _ _ _ _ d_Dsk_name_10 rfl (⟨by first | rw [nmR_kneg hk] | rw [nmR_kbig hk] | rw [nmR_in hk hu (by omega), ← be_cg (v := v) (u := A u) (p := u * 32 + 8 * k) (q := 8 * k) 8 (fun j hj => by rw [Nat.add_assoc]; exact hnm u hu (8 * k + j) (by omega))] | rw [nmR_n hk c16 c40] | rw [nmR_B hk c40, ← be_cg (v := v2) (p := 8 * k) 8 (fun j hj => hbn c40 (8 * k + j) (by omega))] | rw [nmR_T hk c40] | rw [nmR_R hk c40, ← be_cg (v := c) (p := 8 * k) 8 (fun j hj => hrt c40 (8 * k + j) (by omega))] | rw [nmR_o hk c16 e1 e2 e3] | rw [nmR_o hk c16 (ne_big (by omega) hu (by decide)) (ne_big (by omega) hu (by decide)) (ne_big (by omega) hu (by decide))], rfl⟩)
  · skip
    rcases pk_ix tt (n := cnt) (by omega) with hu | hu | ⟨u, hu, rfl⟩
    · skip
      by_cases e1 : tt = -1
      · subst e1
        show j_V g κ 0 0 0 [(0, .ref x0), (1, .int (-1 : Int32)), (2, .int (nI k))] [] ([(x0, .inr (5, [.ref tw, .ref r0, .ref tk, .ref m0, .ref ha, .int (nI cnt), .int (if blk = true then (1 : Int32) else 0), .int pl, .ref tn, .ref bn, .ref w0])), (tk, .inr (3, [.ref kb, .int (nI n)])), (kb, .inl (aB g, 2000, .inl (bf t))), (tn, .inl (aB g, 384, .inl (bf v))), (bn, .inl (aB g, 32, .inl (bf v2))), (w0, .inr (0, [.ref nr, .int dbv])), (nr, .inl (aB g, 384, .inl (bf c)))])
        refine j_iload_n (pc := 0) C d_Dsk_name_0 rfl 2 rfl ?_
        refine j_if_ltN (pc := 1) (tgt := 9) C (by omega) d_Dsk_name_1 rfl ?_
        refine j_iload_n (pc := 4) C d_Dsk_name_4 rfl 2 rfl ?_
        refine j_iconst (pc := 5) (v := nI 3) C d_Dsk_name_5 (by decide) ?_
        refine j_icmp_leN (pc := 6) (tgt := 11) C (by omega) (by omega) d_Dsk_name_6 rfl (fun c6 => ?_) (fun c6 => ?_)
        · skip
          refine j_aload_n (pc := 11) C d_Dsk_name_11 rfl 0 rfl ?_
          refine j_iload_n (pc := 12) C d_Dsk_name_12 rfl 1 rfl ?_
          refine j_callV (pc := 13) (As := [.int (-1 : Int32)]) (rest := []) (wc := [(x0, .inr (5, [.ref tw, .ref r0, .ref tk, .ref m0, .ref ha, .int (nI cnt), .int (if blk = true then (1 : Int32) else 0), .int pl, .ref tn, .ref bn, .ref w0]))]) (wr := [(tk, .inr (3, [.ref kb, .int (nI n)])), (kb, .inl (aB g, 2000, .inl (bf t))), (tn, .inl (aB g, 384, .inl (bf v))), (bn, .inl (aB g, 32, .inl (bf v2))), (w0, .inr (0, [.ref nr, .int dbv])), (nr, .inl (aB g, 384, .inl (bf c)))]) C (c_Dsk_hasTransaction (kl κ) g x0 tw tk r0 m0 ha tn bn w0 cnt blk pl (-1 : Int32) (by omega)) Y_Dsk_hasTransaction ml_Dsk_138 im_Dsk_hasTransaction sl_Dsk_hasTransaction rfl ⟨by decide, by decide⟩ rfl (ci := 5) (q0 := 0) rfl rfl rfl (Nat.le_of_ble_eq_true rfl) (j_sb [0, 1, 2, 3, 4, 5, 6] rfl rfl) rfl d_Dsk_name_13 (fun r w1 hO => ?_)
          obtain ⟨rfl, rfl⟩ := hO
          show j_V g κ 0 0 16 [(0, .ref x0), (1, .int (-1 : Int32)), (2, .int (nI k))] [.int (if 0 ≤ (-1 : Int32) ∧ (-1 : Int32) < nI cnt then (1 : Int32) else 0)] ([(x0, .inr (5, [.ref tw, .ref r0, .ref tk, .ref m0, .ref ha, .int (nI cnt), .int (if blk = true then (1 : Int32) else 0), .int pl, .ref tn, .ref bn, .ref w0])), (tk, .inr (3, [.ref kb, .int (nI n)])), (kb, .inl (aB g, 2000, .inl (bf t))), (tn, .inl (aB g, 384, .inl (bf v))), (bn, .inl (aB g, 32, .inl (bf v2))), (w0, .inr (0, [.ref nr, .int dbv])), (nr, .inl (aB g, 384, .inl (bf c)))])
          refine j_if_eqB (pc := 16) (tgt := 36) C d_Dsk_name_16 rfl (fun c16 => ?_) (fun c16 => ?_)
          · skip
            refine j_aload_n (pc := 36) C d_Dsk_name_36 rfl 0 rfl ?_
            refine j_get (pc := 37) C F_Dsk_46 0 rfl rfl d_Dsk_name_37 ?_
            refine j_if_neB (pc := 40) (tgt := 45) C d_Dsk_name_40 rfl (fun c40 => ?_) (fun c40 => ?_)
            · skip
              refine j_iload_n (pc := 45) C d_Dsk_name_45 rfl 1 rfl ?_
              refine j_tableIn (pc := 46) (tgt := 72) C d_Dsk_name_46 (by decide) (by decide) rfl (by decide) ?_
              refine j_aload_n (pc := 72) C d_Dsk_name_72 rfl 0 rfl ?_
              refine j_get (pc := 73) C F_Dsk_57 0 rfl rfl d_Dsk_name_73 ?_
              refine j_bipush (pc := 76) (v := nI 8) C d_Dsk_name_76 (by decide) ?_
              refine j_iload_n (pc := 78) C d_Dsk_name_78 rfl 2 rfl ?_
              refine j_imulN (pc := 79) C d_Dsk_name_79 ?_
              refine j_callS (pc := 80) (As := [.ref bn, .int (nI (8 * k))]) (rest := []) (wc := [(bn, .inl (aB g, 32, .inl (bf v2)))]) (wr := [(x0, .inr (5, [.ref tw, .ref r0, .ref tk, .ref m0, .ref ha, .int (nI cnt), .int (if blk = true then (1 : Int32) else 0), .int pl, .ref tn, .ref bn, .ref w0])), (tk, .inr (3, [.ref kb, .int (nI n)])), (kb, .inl (aB g, 2000, .inl (bf t))), (tn, .inl (aB g, 384, .inl (bf v))), (w0, .inr (0, [.ref nr, .int dbv])), (nr, .inl (aB g, 384, .inl (bf c)))]) C (c_Dsk_eightBytes (kl κ) g bn 32 (8 * k) v2 (by omega) hv2 (by omega)) Y_Dsk_eightBytes ml_Dsk_171 sta_Dsk_eightBytes rfl ⟨by decide, by decide⟩ rfl (Nat.le_of_ble_eq_true rfl) (j_sb [4, 0, 1, 2, 3, 5, 6] rfl rfl) rfl d_Dsk_name_80 (fun r w1 hO => ?_)
              obtain ⟨rfl, rfl⟩ := hO
              show j_V g κ 0 0 83 [(0, .ref x0), (1, .int (-1 : Int32)), (2, .int (nI k))] [.long (lN (be v2 (8 * k) 8))] ([(bn, .inl (aB g, 32, .inl (bf v2))), (x0, .inr (5, [.ref tw, .ref r0, .ref tk, .ref m0, .ref ha, .int (nI cnt), .int (if blk = true then (1 : Int32) else 0), .int pl, .ref tn, .ref bn, .ref w0])), (tk, .inr (3, [.ref kb, .int (nI n)])), (kb, .inl (aB g, 2000, .inl (bf t))), (tn, .inl (aB g, 384, .inl (bf v))), (w0, .inr (0, [.ref nr, .int dbv])), (nr, .inl (aB g, 384, .inl (bf c)))])
              refine j_sub (ws' := [(x0, .inr (5, [.ref tw, .ref r0, .ref tk, .ref m0, .ref ha, .int (nI cnt), .int (if blk = true then (1 : Int32) else 0), .int pl, .ref tn, .ref bn, .ref w0])), (tk, .inr (3, [.ref kb, .int (nI n)])), (kb, .inl (aB g, 2000, .inl (bf t))), (tn, .inl (aB g, 384, .inl (bf v))), (bn, .inl (aB g, 32, .inl (bf v2))), (w0, .inr (0, [.ref nr, .int dbv])), (nr, .inl (aB g, 384, .inl (bf c)))]) (j_sb [1, 2, 3, 4, 0, 5, 6] rfl rfl) ?_
              exact hR.2.1 _ _ _ _ d_Dsk_name_83 rfl (⟨by first | rw [nmR_kneg hk] | rw [nmR_kbig hk] | rw [nmR_in hk hu (by omega), ← be_cg (v := v) (u := A u) (p := u * 32 + 8 * k) (q := 8 * k) 8 (fun j hj => by rw [Nat.add_assoc]; exact hnm u hu (8 * k + j) (by omega))] | rw [nmR_n hk c16 c40] | rw [nmR_B hk c40, ← be_cg (v := v2) (p := 8 * k) 8 (fun j hj => hbn c40 (8 * k + j) (by omega))] | rw [nmR_T hk c40] | rw [nmR_R hk c40, ← be_cg (v := c) (p := 8 * k) 8 (fun j hj => hrt c40 (8 * k + j) (by omega))] | rw [nmR_o hk c16 e1 e2 e3] | rw [nmR_o hk c16 (ne_big (by omega) hu (by decide)) (ne_big (by omega) hu (by decide)) (ne_big (by omega) hu (by decide))], rfl⟩)
            · skip
              refine j_lconst (pc := 43) (v := 0) C d_Dsk_name_43 (by decide) ?_
              exact hR.2.1 _ _ _ _ d_Dsk_name_44 rfl (⟨by first | rw [nmR_kneg hk] | rw [nmR_kbig hk] | rw [nmR_in hk hu (by omega), ← be_cg (v := v) (u := A u) (p := u * 32 + 8 * k) (q := 8 * k) 8 (fun j hj => by rw [Nat.add_assoc]; exact hnm u hu (8 * k + j) (by omega))] | rw [nmR_n hk c16 c40] | rw [nmR_B hk c40, ← be_cg (v := v2) (p := 8 * k) 8 (fun j hj => hbn c40 (8 * k + j) (by omega))] | rw [nmR_T hk c40] | rw [nmR_R hk c40, ← be_cg (v := c) (p := 8 * k) 8 (fun j hj => hrt c40 (8 * k + j) (by omega))] | rw [nmR_o hk c16 e1 e2 e3] | rw [nmR_o hk c16 (ne_big (by omega) hu (by decide)) (ne_big (by omega) hu (by decide)) (ne_big (by omega) hu (by decide))], rfl⟩)
          · skip
            first | exact absurd c16.1 (nlt0 hu) | exact absurd c16.2 (nle hu) | exact absurd c16.1 (by decide)
        · skip
          exfalso; omega
      by_cases e2 : tt = -2
      · subst e2
        show j_V g κ 0 0 0 [(0, .ref x0), (1, .int (-2 : Int32)), (2, .int (nI k))] [] ([(x0, .inr (5, [.ref tw, .ref r0, .ref tk, .ref m0, .ref ha, .int (nI cnt), .int (if blk = true then (1 : Int32) else 0), .int pl, .ref tn, .ref bn, .ref w0])), (tk, .inr (3, [.ref kb, .int (nI n)])), (kb, .inl (aB g, 2000, .inl (bf t))), (tn, .inl (aB g, 384, .inl (bf v))), (bn, .inl (aB g, 32, .inl (bf v2))), (w0, .inr (0, [.ref nr, .int dbv])), (nr, .inl (aB g, 384, .inl (bf c)))])
        refine j_iload_n (pc := 0) C d_Dsk_name_0 rfl 2 rfl ?_
        refine j_if_ltN (pc := 1) (tgt := 9) C (by omega) d_Dsk_name_1 rfl ?_
        refine j_iload_n (pc := 4) C d_Dsk_name_4 rfl 2 rfl ?_
        refine j_iconst (pc := 5) (v := nI 3) C d_Dsk_name_5 (by decide) ?_
        refine j_icmp_leN (pc := 6) (tgt := 11) C (by omega) (by omega) d_Dsk_name_6 rfl (fun c6 => ?_) (fun c6 => ?_)
        · skip
          refine j_aload_n (pc := 11) C d_Dsk_name_11 rfl 0 rfl ?_
          refine j_iload_n (pc := 12) C d_Dsk_name_12 rfl 1 rfl ?_
          refine j_callV (pc := 13) (As := [.int (-2 : Int32)]) (rest := []) (wc := [(x0, .inr (5, [.ref tw, .ref r0, .ref tk, .ref m0, .ref ha, .int (nI cnt), .int (if blk = true then (1 : Int32) else 0), .int pl, .ref tn, .ref bn, .ref w0]))]) (wr := [(tk, .inr (3, [.ref kb, .int (nI n)])), (kb, .inl (aB g, 2000, .inl (bf t))), (tn, .inl (aB g, 384, .inl (bf v))), (bn, .inl (aB g, 32, .inl (bf v2))), (w0, .inr (0, [.ref nr, .int dbv])), (nr, .inl (aB g, 384, .inl (bf c)))]) C (c_Dsk_hasTransaction (kl κ) g x0 tw tk r0 m0 ha tn bn w0 cnt blk pl (-2 : Int32) (by omega)) Y_Dsk_hasTransaction ml_Dsk_138 im_Dsk_hasTransaction sl_Dsk_hasTransaction rfl ⟨by decide, by decide⟩ rfl (ci := 5) (q0 := 0) rfl rfl rfl (Nat.le_of_ble_eq_true rfl) (j_sb [0, 1, 2, 3, 4, 5, 6] rfl rfl) rfl d_Dsk_name_13 (fun r w1 hO => ?_)
          obtain ⟨rfl, rfl⟩ := hO
          show j_V g κ 0 0 16 [(0, .ref x0), (1, .int (-2 : Int32)), (2, .int (nI k))] [.int (if 0 ≤ (-2 : Int32) ∧ (-2 : Int32) < nI cnt then (1 : Int32) else 0)] ([(x0, .inr (5, [.ref tw, .ref r0, .ref tk, .ref m0, .ref ha, .int (nI cnt), .int (if blk = true then (1 : Int32) else 0), .int pl, .ref tn, .ref bn, .ref w0])), (tk, .inr (3, [.ref kb, .int (nI n)])), (kb, .inl (aB g, 2000, .inl (bf t))), (tn, .inl (aB g, 384, .inl (bf v))), (bn, .inl (aB g, 32, .inl (bf v2))), (w0, .inr (0, [.ref nr, .int dbv])), (nr, .inl (aB g, 384, .inl (bf c)))])
          refine j_if_eqB (pc := 16) (tgt := 36) C d_Dsk_name_16 rfl (fun c16 => ?_) (fun c16 => ?_)
          · skip
            refine j_aload_n (pc := 36) C d_Dsk_name_36 rfl 0 rfl ?_
            refine j_get (pc := 37) C F_Dsk_46 0 rfl rfl d_Dsk_name_37 ?_
            refine j_if_neB (pc := 40) (tgt := 45) C d_Dsk_name_40 rfl (fun c40 => ?_) (fun c40 => ?_)
            · skip
              refine j_iload_n (pc := 45) C d_Dsk_name_45 rfl 1 rfl ?_
              refine j_tableIn (pc := 46) (tgt := 84) C d_Dsk_name_46 (by decide) (by decide) rfl (by decide) ?_
              refine j_aload_n (pc := 84) C d_Dsk_name_84 rfl 0 rfl ?_
              refine j_get (pc := 85) C F_Dsk_26 0 rfl rfl d_Dsk_name_85 ?_
              refine j_get (pc := 88) C F_Dsk_118 1 rfl rfl d_Dsk_name_88 ?_
              refine j_bipush (pc := 91) (v := nI 36) C d_Dsk_name_91 (by decide) ?_
              refine j_bipush (pc := 93) (v := nI 8) C d_Dsk_name_93 (by decide) ?_
              refine j_iload_n (pc := 95) C d_Dsk_name_95 rfl 2 rfl ?_
              refine j_imulN (pc := 96) C d_Dsk_name_96 ?_
              refine j_iaddN (pc := 97) C d_Dsk_name_97 ?_
              refine j_callS (pc := 98) (As := [.ref kb, .int (nI (36 + (8 * k)))]) (rest := []) (wc := [(kb, .inl (aB g, 2000, .inl (bf t)))]) (wr := [(x0, .inr (5, [.ref tw, .ref r0, .ref tk, .ref m0, .ref ha, .int (nI cnt), .int (if blk = true then (1 : Int32) else 0), .int pl, .ref tn, .ref bn, .ref w0])), (tk, .inr (3, [.ref kb, .int (nI n)])), (tn, .inl (aB g, 384, .inl (bf v))), (bn, .inl (aB g, 32, .inl (bf v2))), (w0, .inr (0, [.ref nr, .int dbv])), (nr, .inl (aB g, 384, .inl (bf c)))]) C (c_Dsk_eightBytes (kl κ) g kb 2000 (36 + (8 * k)) t (by omega) hT (by omega)) Y_Dsk_eightBytes ml_Dsk_171 sta_Dsk_eightBytes rfl ⟨by decide, by decide⟩ rfl (Nat.le_of_ble_eq_true rfl) (j_sb [2, 0, 1, 3, 4, 5, 6] rfl rfl) rfl d_Dsk_name_98 (fun r w1 hO => ?_)
              obtain ⟨rfl, rfl⟩ := hO
              show j_V g κ 0 0 101 [(0, .ref x0), (1, .int (-2 : Int32)), (2, .int (nI k))] [.long (lN (be t (36 + (8 * k)) 8))] ([(kb, .inl (aB g, 2000, .inl (bf t))), (x0, .inr (5, [.ref tw, .ref r0, .ref tk, .ref m0, .ref ha, .int (nI cnt), .int (if blk = true then (1 : Int32) else 0), .int pl, .ref tn, .ref bn, .ref w0])), (tk, .inr (3, [.ref kb, .int (nI n)])), (tn, .inl (aB g, 384, .inl (bf v))), (bn, .inl (aB g, 32, .inl (bf v2))), (w0, .inr (0, [.ref nr, .int dbv])), (nr, .inl (aB g, 384, .inl (bf c)))])
              refine j_sub (ws' := [(x0, .inr (5, [.ref tw, .ref r0, .ref tk, .ref m0, .ref ha, .int (nI cnt), .int (if blk = true then (1 : Int32) else 0), .int pl, .ref tn, .ref bn, .ref w0])), (tk, .inr (3, [.ref kb, .int (nI n)])), (kb, .inl (aB g, 2000, .inl (bf t))), (tn, .inl (aB g, 384, .inl (bf v))), (bn, .inl (aB g, 32, .inl (bf v2))), (w0, .inr (0, [.ref nr, .int dbv])), (nr, .inl (aB g, 384, .inl (bf c)))]) (j_sb [1, 2, 0, 3, 4, 5, 6] rfl rfl) ?_
              exact hR.2.1 _ _ _ _ d_Dsk_name_101 rfl (⟨by first | rw [nmR_kneg hk] | rw [nmR_kbig hk] | rw [nmR_in hk hu (by omega), ← be_cg (v := v) (u := A u) (p := u * 32 + 8 * k) (q := 8 * k) 8 (fun j hj => by rw [Nat.add_assoc]; exact hnm u hu (8 * k + j) (by omega))] | rw [nmR_n hk c16 c40] | rw [nmR_B hk c40, ← be_cg (v := v2) (p := 8 * k) 8 (fun j hj => hbn c40 (8 * k + j) (by omega))] | rw [nmR_T hk c40] | rw [nmR_R hk c40, ← be_cg (v := c) (p := 8 * k) 8 (fun j hj => hrt c40 (8 * k + j) (by omega))] | rw [nmR_o hk c16 e1 e2 e3] | rw [nmR_o hk c16 (ne_big (by omega) hu (by decide)) (ne_big (by omega) hu (by decide)) (ne_big (by omega) hu (by decide))], rfl⟩)
            · skip
              refine j_lconst (pc := 43) (v := 0) C d_Dsk_name_43 (by decide) ?_
              exact hR.2.1 _ _ _ _ d_Dsk_name_44 rfl (⟨by first | rw [nmR_kneg hk] | rw [nmR_kbig hk] | rw [nmR_in hk hu (by omega), ← be_cg (v := v) (u := A u) (p := u * 32 + 8 * k) (q := 8 * k) 8 (fun j hj => by rw [Nat.add_assoc]; exact hnm u hu (8 * k + j) (by omega))] | rw [nmR_n hk c16 c40] | rw [nmR_B hk c40, ← be_cg (v := v2) (p := 8 * k) 8 (fun j hj => hbn c40 (8 * k + j) (by omega))] | rw [nmR_T hk c40] | rw [nmR_R hk c40, ← be_cg (v := c) (p := 8 * k) 8 (fun j hj => hrt c40 (8 * k + j) (by omega))] | rw [nmR_o hk c16 e1 e2 e3] | rw [nmR_o hk c16 (ne_big (by omega) hu (by decide)) (ne_big (by omega) hu (by decide)) (ne_big (by omega) hu (by decide))], rfl⟩)
          · skip
            first | exact absurd c16.1 (nlt0 hu) | exact absurd c16.2 (nle hu) | exact absurd c16.1 (by decide)
        · skip
          exfalso; omega
      by_cases e3 : tt = -3
      · subst e3
        show j_V g κ 0 0 0 [(0, .ref x0), (1, .int (-3 : Int32)), (2, .int (nI k))] [] ([(x0, .inr (5, [.ref tw, .ref r0, .ref tk, .ref m0, .ref ha, .int (nI cnt), .int (if blk = true then (1 : Int32) else 0), .int pl, .ref tn, .ref bn, .ref w0])), (tk, .inr (3, [.ref kb, .int (nI n)])), (kb, .inl (aB g, 2000, .inl (bf t))), (tn, .inl (aB g, 384, .inl (bf v))), (bn, .inl (aB g, 32, .inl (bf v2))), (w0, .inr (0, [.ref nr, .int dbv])), (nr, .inl (aB g, 384, .inl (bf c)))])
        refine j_iload_n (pc := 0) C d_Dsk_name_0 rfl 2 rfl ?_
        refine j_if_ltN (pc := 1) (tgt := 9) C (by omega) d_Dsk_name_1 rfl ?_
        refine j_iload_n (pc := 4) C d_Dsk_name_4 rfl 2 rfl ?_
        refine j_iconst (pc := 5) (v := nI 3) C d_Dsk_name_5 (by decide) ?_
        refine j_icmp_leN (pc := 6) (tgt := 11) C (by omega) (by omega) d_Dsk_name_6 rfl (fun c6 => ?_) (fun c6 => ?_)
        · skip
          refine j_aload_n (pc := 11) C d_Dsk_name_11 rfl 0 rfl ?_
          refine j_iload_n (pc := 12) C d_Dsk_name_12 rfl 1 rfl ?_
          refine j_callV (pc := 13) (As := [.int (-3 : Int32)]) (rest := []) (wc := [(x0, .inr (5, [.ref tw, .ref r0, .ref tk, .ref m0, .ref ha, .int (nI cnt), .int (if blk = true then (1 : Int32) else 0), .int pl, .ref tn, .ref bn, .ref w0]))]) (wr := [(tk, .inr (3, [.ref kb, .int (nI n)])), (kb, .inl (aB g, 2000, .inl (bf t))), (tn, .inl (aB g, 384, .inl (bf v))), (bn, .inl (aB g, 32, .inl (bf v2))), (w0, .inr (0, [.ref nr, .int dbv])), (nr, .inl (aB g, 384, .inl (bf c)))]) C (c_Dsk_hasTransaction (kl κ) g x0 tw tk r0 m0 ha tn bn w0 cnt blk pl (-3 : Int32) (by omega)) Y_Dsk_hasTransaction ml_Dsk_138 im_Dsk_hasTransaction sl_Dsk_hasTransaction rfl ⟨by decide, by decide⟩ rfl (ci := 5) (q0 := 0) rfl rfl rfl (Nat.le_of_ble_eq_true rfl) (j_sb [0, 1, 2, 3, 4, 5, 6] rfl rfl) rfl d_Dsk_name_13 (fun r w1 hO => ?_)
          obtain ⟨rfl, rfl⟩ := hO
          show j_V g κ 0 0 16 [(0, .ref x0), (1, .int (-3 : Int32)), (2, .int (nI k))] [.int (if 0 ≤ (-3 : Int32) ∧ (-3 : Int32) < nI cnt then (1 : Int32) else 0)] ([(x0, .inr (5, [.ref tw, .ref r0, .ref tk, .ref m0, .ref ha, .int (nI cnt), .int (if blk = true then (1 : Int32) else 0), .int pl, .ref tn, .ref bn, .ref w0])), (tk, .inr (3, [.ref kb, .int (nI n)])), (kb, .inl (aB g, 2000, .inl (bf t))), (tn, .inl (aB g, 384, .inl (bf v))), (bn, .inl (aB g, 32, .inl (bf v2))), (w0, .inr (0, [.ref nr, .int dbv])), (nr, .inl (aB g, 384, .inl (bf c)))])
          refine j_if_eqB (pc := 16) (tgt := 36) C d_Dsk_name_16 rfl (fun c16 => ?_) (fun c16 => ?_)
          · skip
            refine j_aload_n (pc := 36) C d_Dsk_name_36 rfl 0 rfl ?_
            refine j_get (pc := 37) C F_Dsk_46 0 rfl rfl d_Dsk_name_37 ?_
            refine j_if_neB (pc := 40) (tgt := 45) C d_Dsk_name_40 rfl (fun c40 => ?_) (fun c40 => ?_)
            · skip
              refine j_iload_n (pc := 45) C d_Dsk_name_45 rfl 1 rfl ?_
              refine j_tableIn (pc := 46) (tgt := 102) C d_Dsk_name_46 (by decide) (by decide) rfl (by decide) ?_
              refine j_aload_n (pc := 102) C d_Dsk_name_102 rfl 0 rfl ?_
              refine j_get (pc := 103) C F_Dsk_63 0 rfl rfl d_Dsk_name_103 ?_
              refine j_get (pc := 106) C F_Dsk_175 5 rfl rfl d_Dsk_name_106 ?_
              refine j_bipush (pc := 109) (v := nI 8) C d_Dsk_name_109 (by decide) ?_
              refine j_iload_n (pc := 111) C d_Dsk_name_111 rfl 2 rfl ?_
              refine j_imulN (pc := 112) C d_Dsk_name_112 ?_
              refine j_callS (pc := 113) (As := [.ref nr, .int (nI (8 * k))]) (rest := []) (wc := [(nr, .inl (aB g, 384, .inl (bf c)))]) (wr := [(x0, .inr (5, [.ref tw, .ref r0, .ref tk, .ref m0, .ref ha, .int (nI cnt), .int (if blk = true then (1 : Int32) else 0), .int pl, .ref tn, .ref bn, .ref w0])), (tk, .inr (3, [.ref kb, .int (nI n)])), (kb, .inl (aB g, 2000, .inl (bf t))), (tn, .inl (aB g, 384, .inl (bf v))), (bn, .inl (aB g, 32, .inl (bf v2))), (w0, .inr (0, [.ref nr, .int dbv]))]) C (c_Dsk_eightBytes (kl κ) g nr 384 (8 * k) c (by omega) hc0 (by omega)) Y_Dsk_eightBytes ml_Dsk_171 sta_Dsk_eightBytes rfl ⟨by decide, by decide⟩ rfl (Nat.le_of_ble_eq_true rfl) (j_sb [6, 0, 1, 2, 3, 4, 5] rfl rfl) rfl d_Dsk_name_113 (fun r w1 hO => ?_)
              obtain ⟨rfl, rfl⟩ := hO
              show j_V g κ 0 0 116 [(0, .ref x0), (1, .int (-3 : Int32)), (2, .int (nI k))] [.long (lN (be c (8 * k) 8))] ([(nr, .inl (aB g, 384, .inl (bf c))), (x0, .inr (5, [.ref tw, .ref r0, .ref tk, .ref m0, .ref ha, .int (nI cnt), .int (if blk = true then (1 : Int32) else 0), .int pl, .ref tn, .ref bn, .ref w0])), (tk, .inr (3, [.ref kb, .int (nI n)])), (kb, .inl (aB g, 2000, .inl (bf t))), (tn, .inl (aB g, 384, .inl (bf v))), (bn, .inl (aB g, 32, .inl (bf v2))), (w0, .inr (0, [.ref nr, .int dbv]))])
              refine j_sub (ws' := [(x0, .inr (5, [.ref tw, .ref r0, .ref tk, .ref m0, .ref ha, .int (nI cnt), .int (if blk = true then (1 : Int32) else 0), .int pl, .ref tn, .ref bn, .ref w0])), (tk, .inr (3, [.ref kb, .int (nI n)])), (kb, .inl (aB g, 2000, .inl (bf t))), (tn, .inl (aB g, 384, .inl (bf v))), (bn, .inl (aB g, 32, .inl (bf v2))), (w0, .inr (0, [.ref nr, .int dbv])), (nr, .inl (aB g, 384, .inl (bf c)))]) (j_sb [1, 2, 3, 4, 5, 6, 0] rfl rfl) ?_
              exact hR.2.1 _ _ _ _ d_Dsk_name_116 rfl (⟨by first | rw [nmR_kneg hk] | rw [nmR_kbig hk] | rw [nmR_in hk hu (by omega), ← be_cg (v := v) (u := A u) (p := u * 32 + 8 * k) (q := 8 * k) 8 (fun j hj => by rw [Nat.add_assoc]; exact hnm u hu (8 * k + j) (by omega))] | rw [nmR_n hk c16 c40] | rw [nmR_B hk c40, ← be_cg (v := v2) (p := 8 * k) 8 (fun j hj => hbn c40 (8 * k + j) (by omega))] | rw [nmR_T hk c40] | rw [nmR_R hk c40, ← be_cg (v := c) (p := 8 * k) 8 (fun j hj => hrt c40 (8 * k + j) (by omega))] | rw [nmR_o hk c16 e1 e2 e3] | rw [nmR_o hk c16 (ne_big (by omega) hu (by decide)) (ne_big (by omega) hu (by decide)) (ne_big (by omega) hu (by decide))], rfl⟩)
            · skip
              refine j_lconst (pc := 43) (v := 0) C d_Dsk_name_43 (by decide) ?_
              exact hR.2.1 _ _ _ _ d_Dsk_name_44 rfl (⟨by first | rw [nmR_kneg hk] | rw [nmR_kbig hk] | rw [nmR_in hk hu (by omega), ← be_cg (v := v) (u := A u) (p := u * 32 + 8 * k) (q := 8 * k) 8 (fun j hj => by rw [Nat.add_assoc]; exact hnm u hu (8 * k + j) (by omega))] | rw [nmR_n hk c16 c40] | rw [nmR_B hk c40, ← be_cg (v := v2) (p := 8 * k) 8 (fun j hj => hbn c40 (8 * k + j) (by omega))] | rw [nmR_T hk c40] | rw [nmR_R hk c40, ← be_cg (v := c) (p := 8 * k) 8 (fun j hj => hrt c40 (8 * k + j) (by omega))] | rw [nmR_o hk c16 e1 e2 e3] | rw [nmR_o hk c16 (ne_big (by omega) hu (by decide)) (ne_big (by omega) hu (by decide)) (ne_big (by omega) hu (by decide))], rfl⟩)
          · skip
            first | exact absurd c16.1 (nlt0 hu) | exact absurd c16.2 (nle hu) | exact absurd c16.1 (by decide)
        · skip
          exfalso; omega
      show j_V g κ 0 0 0 [(0, .ref x0), (1, .int tt), (2, .int (nI k))] [] ([(x0, .inr (5, [.ref tw, .ref r0, .ref tk, .ref m0, .ref ha, .int (nI cnt), .int (if blk = true then (1 : Int32) else 0), .int pl, .ref tn, .ref bn, .ref w0])), (tk, .inr (3, [.ref kb, .int (nI n)])), (kb, .inl (aB g, 2000, .inl (bf t))), (tn, .inl (aB g, 384, .inl (bf v))), (bn, .inl (aB g, 32, .inl (bf v2))), (w0, .inr (0, [.ref nr, .int dbv])), (nr, .inl (aB g, 384, .inl (bf c)))])
      refine j_iload_n (pc := 0) C d_Dsk_name_0 rfl 2 rfl ?_
      refine j_if_ltN (pc := 1) (tgt := 9) C (by omega) d_Dsk_name_1 rfl ?_
      refine j_iload_n (pc := 4) C d_Dsk_name_4 rfl 2 rfl ?_
      refine j_iconst (pc := 5) (v := nI 3) C d_Dsk_name_5 (by decide) ?_
      refine j_icmp_leN (pc := 6) (tgt := 11) C (by omega) (by omega) d_Dsk_name_6 rfl (fun c6 => ?_) (fun c6 => ?_)
      · skip
        refine j_aload_n (pc := 11) C d_Dsk_name_11 rfl 0 rfl ?_
        refine j_iload_n (pc := 12) C d_Dsk_name_12 rfl 1 rfl ?_
        refine j_callV (pc := 13) (As := [.int tt]) (rest := []) (wc := [(x0, .inr (5, [.ref tw, .ref r0, .ref tk, .ref m0, .ref ha, .int (nI cnt), .int (if blk = true then (1 : Int32) else 0), .int pl, .ref tn, .ref bn, .ref w0]))]) (wr := [(tk, .inr (3, [.ref kb, .int (nI n)])), (kb, .inl (aB g, 2000, .inl (bf t))), (tn, .inl (aB g, 384, .inl (bf v))), (bn, .inl (aB g, 32, .inl (bf v2))), (w0, .inr (0, [.ref nr, .int dbv])), (nr, .inl (aB g, 384, .inl (bf c)))]) C (c_Dsk_hasTransaction (kl κ) g x0 tw tk r0 m0 ha tn bn w0 cnt blk pl tt (by omega)) Y_Dsk_hasTransaction ml_Dsk_138 im_Dsk_hasTransaction sl_Dsk_hasTransaction rfl ⟨by decide, by decide⟩ rfl (ci := 5) (q0 := 0) rfl rfl rfl (Nat.le_of_ble_eq_true rfl) (j_sb [0, 1, 2, 3, 4, 5, 6] rfl rfl) rfl d_Dsk_name_13 (fun r w1 hO => ?_)
        obtain ⟨rfl, rfl⟩ := hO
        show j_V g κ 0 0 16 [(0, .ref x0), (1, .int tt), (2, .int (nI k))] [.int (if 0 ≤ tt ∧ tt < nI cnt then (1 : Int32) else 0)] ([(x0, .inr (5, [.ref tw, .ref r0, .ref tk, .ref m0, .ref ha, .int (nI cnt), .int (if blk = true then (1 : Int32) else 0), .int pl, .ref tn, .ref bn, .ref w0])), (tk, .inr (3, [.ref kb, .int (nI n)])), (kb, .inl (aB g, 2000, .inl (bf t))), (tn, .inl (aB g, 384, .inl (bf v))), (bn, .inl (aB g, 32, .inl (bf v2))), (w0, .inr (0, [.ref nr, .int dbv])), (nr, .inl (aB g, 384, .inl (bf c)))])
        refine j_if_eqB (pc := 16) (tgt := 36) C d_Dsk_name_16 rfl (fun c16 => ?_) (fun c16 => ?_)
        · skip
          refine j_aload_n (pc := 36) C d_Dsk_name_36 rfl 0 rfl ?_
          refine j_get (pc := 37) C F_Dsk_46 0 rfl rfl d_Dsk_name_37 ?_
          refine j_if_neB (pc := 40) (tgt := 45) C d_Dsk_name_40 rfl (fun c40 => ?_) (fun c40 => ?_)
          · skip
            refine j_iload_n (pc := 45) C d_Dsk_name_45 rfl 1 rfl ?_
            refine j_tableOut (pc := 46) (tgt := 117) C d_Dsk_name_46 (ts3 e1 e2 e3) (by decide) ?_
            refine j_lconst (pc := 117) (v := 0) C d_Dsk_name_117 (by decide) ?_
            exact hR.2.1 _ _ _ _ d_Dsk_name_118 rfl (⟨by first | rw [nmR_kneg hk] | rw [nmR_kbig hk] | rw [nmR_in hk hu (by omega), ← be_cg (v := v) (u := A u) (p := u * 32 + 8 * k) (q := 8 * k) 8 (fun j hj => by rw [Nat.add_assoc]; exact hnm u hu (8 * k + j) (by omega))] | rw [nmR_n hk c16 c40] | rw [nmR_B hk c40, ← be_cg (v := v2) (p := 8 * k) 8 (fun j hj => hbn c40 (8 * k + j) (by omega))] | rw [nmR_T hk c40] | rw [nmR_R hk c40, ← be_cg (v := c) (p := 8 * k) 8 (fun j hj => hrt c40 (8 * k + j) (by omega))] | rw [nmR_o hk c16 e1 e2 e3] | rw [nmR_o hk c16 (ne_big (by omega) hu (by decide)) (ne_big (by omega) hu (by decide)) (ne_big (by omega) hu (by decide))], rfl⟩)
          · skip
            refine j_lconst (pc := 43) (v := 0) C d_Dsk_name_43 (by decide) ?_
            exact hR.2.1 _ _ _ _ d_Dsk_name_44 rfl (⟨by first | rw [nmR_kneg hk] | rw [nmR_kbig hk] | rw [nmR_in hk hu (by omega), ← be_cg (v := v) (u := A u) (p := u * 32 + 8 * k) (q := 8 * k) 8 (fun j hj => by rw [Nat.add_assoc]; exact hnm u hu (8 * k + j) (by omega))] | rw [nmR_n hk c16 c40] | rw [nmR_B hk c40, ← be_cg (v := v2) (p := 8 * k) 8 (fun j hj => hbn c40 (8 * k + j) (by omega))] | rw [nmR_T hk c40] | rw [nmR_R hk c40, ← be_cg (v := c) (p := 8 * k) 8 (fun j hj => hrt c40 (8 * k + j) (by omega))] | rw [nmR_o hk c16 e1 e2 e3] | rw [nmR_o hk c16 (ne_big (by omega) hu (by decide)) (ne_big (by omega) hu (by decide)) (ne_big (by omega) hu (by decide))], rfl⟩)
        · skip
          first | exact absurd c16.1 (nlt0 hu) | exact absurd c16.2 (nle hu) | exact absurd c16.1 (by decide)
      · skip
        exfalso; omega
    · skip
      show j_V g κ 0 0 0 [(0, .ref x0), (1, .int tt), (2, .int (nI k))] [] ([(x0, .inr (5, [.ref tw, .ref r0, .ref tk, .ref m0, .ref ha, .int (nI cnt), .int (if blk = true then (1 : Int32) else 0), .int pl, .ref tn, .ref bn, .ref w0])), (tk, .inr (3, [.ref kb, .int (nI n)])), (kb, .inl (aB g, 2000, .inl (bf t))), (tn, .inl (aB g, 384, .inl (bf v))), (bn, .inl (aB g, 32, .inl (bf v2))), (w0, .inr (0, [.ref nr, .int dbv])), (nr, .inl (aB g, 384, .inl (bf c)))])
      refine j_iload_n (pc := 0) C d_Dsk_name_0 rfl 2 rfl ?_
      refine j_if_ltN (pc := 1) (tgt := 9) C (by omega) d_Dsk_name_1 rfl ?_
      refine j_iload_n (pc := 4) C d_Dsk_name_4 rfl 2 rfl ?_
      refine j_iconst (pc := 5) (v := nI 3) C d_Dsk_name_5 (by decide) ?_
      refine j_icmp_leN (pc := 6) (tgt := 11) C (by omega) (by omega) d_Dsk_name_6 rfl (fun c6 => ?_) (fun c6 => ?_)
      · skip
        refine j_aload_n (pc := 11) C d_Dsk_name_11 rfl 0 rfl ?_
        refine j_iload_n (pc := 12) C d_Dsk_name_12 rfl 1 rfl ?_
        refine j_callV (pc := 13) (As := [.int tt]) (rest := []) (wc := [(x0, .inr (5, [.ref tw, .ref r0, .ref tk, .ref m0, .ref ha, .int (nI cnt), .int (if blk = true then (1 : Int32) else 0), .int pl, .ref tn, .ref bn, .ref w0]))]) (wr := [(tk, .inr (3, [.ref kb, .int (nI n)])), (kb, .inl (aB g, 2000, .inl (bf t))), (tn, .inl (aB g, 384, .inl (bf v))), (bn, .inl (aB g, 32, .inl (bf v2))), (w0, .inr (0, [.ref nr, .int dbv])), (nr, .inl (aB g, 384, .inl (bf c)))]) C (c_Dsk_hasTransaction (kl κ) g x0 tw tk r0 m0 ha tn bn w0 cnt blk pl tt (by omega)) Y_Dsk_hasTransaction ml_Dsk_138 im_Dsk_hasTransaction sl_Dsk_hasTransaction rfl ⟨by decide, by decide⟩ rfl (ci := 5) (q0 := 0) rfl rfl rfl (Nat.le_of_ble_eq_true rfl) (j_sb [0, 1, 2, 3, 4, 5, 6] rfl rfl) rfl d_Dsk_name_13 (fun r w1 hO => ?_)
        obtain ⟨rfl, rfl⟩ := hO
        show j_V g κ 0 0 16 [(0, .ref x0), (1, .int tt), (2, .int (nI k))] [.int (if 0 ≤ tt ∧ tt < nI cnt then (1 : Int32) else 0)] ([(x0, .inr (5, [.ref tw, .ref r0, .ref tk, .ref m0, .ref ha, .int (nI cnt), .int (if blk = true then (1 : Int32) else 0), .int pl, .ref tn, .ref bn, .ref w0])), (tk, .inr (3, [.ref kb, .int (nI n)])), (kb, .inl (aB g, 2000, .inl (bf t))), (tn, .inl (aB g, 384, .inl (bf v))), (bn, .inl (aB g, 32, .inl (bf v2))), (w0, .inr (0, [.ref nr, .int dbv])), (nr, .inl (aB g, 384, .inl (bf c)))])
        refine j_if_eqB (pc := 16) (tgt := 36) C d_Dsk_name_16 rfl (fun c16 => ?_) (fun c16 => ?_)
        · skip
          refine j_aload_n (pc := 36) C d_Dsk_name_36 rfl 0 rfl ?_
          refine j_get (pc := 37) C F_Dsk_46 0 rfl rfl d_Dsk_name_37 ?_
          refine j_if_neB (pc := 40) (tgt := 45) C d_Dsk_name_40 rfl (fun c40 => ?_) (fun c40 => ?_)
          · skip
            refine j_iload_n (pc := 45) C d_Dsk_name_45 rfl 1 rfl ?_
            refine j_tableOut (pc := 46) (tgt := 117) C d_Dsk_name_46 (Or.inr (by have h9 := hu; rw [Int32.le_iff_toInt_le, nI_toInt (by omega)] at h9; omega)) (by decide) ?_
            refine j_lconst (pc := 117) (v := 0) C d_Dsk_name_117 (by decide) ?_
            exact hR.2.1 _ _ _ _ d_Dsk_name_118 rfl (⟨by first | rw [nmR_kneg hk] | rw [nmR_kbig hk] | rw [nmR_in hk hu (by omega), ← be_cg (v := v) (u := A u) (p := u * 32 + 8 * k) (q := 8 * k) 8 (fun j hj => by rw [Nat.add_assoc]; exact hnm u hu (8 * k + j) (by omega))] | rw [nmR_n hk c16 c40] | rw [nmR_B hk c40, ← be_cg (v := v2) (p := 8 * k) 8 (fun j hj => hbn c40 (8 * k + j) (by omega))] | rw [nmR_T hk c40] | rw [nmR_R hk c40, ← be_cg (v := c) (p := 8 * k) 8 (fun j hj => hrt c40 (8 * k + j) (by omega))] | rw [nmR_o hk c16 e1 e2 e3] | rw [nmR_o hk c16 (ne_big (by omega) hu (by decide)) (ne_big (by omega) hu (by decide)) (ne_big (by omega) hu (by decide))], rfl⟩)
          · skip
            refine j_lconst (pc := 43) (v := 0) C d_Dsk_name_43 (by decide) ?_
            exact hR.2.1 _ _ _ _ d_Dsk_name_44 rfl (⟨by first | rw [nmR_kneg hk] | rw [nmR_kbig hk] | rw [nmR_in hk hu (by omega), ← be_cg (v := v) (u := A u) (p := u * 32 + 8 * k) (q := 8 * k) 8 (fun j hj => by rw [Nat.add_assoc]; exact hnm u hu (8 * k + j) (by omega))] | rw [nmR_n hk c16 c40] | rw [nmR_B hk c40, ← be_cg (v := v2) (p := 8 * k) 8 (fun j hj => hbn c40 (8 * k + j) (by omega))] | rw [nmR_T hk c40] | rw [nmR_R hk c40, ← be_cg (v := c) (p := 8 * k) 8 (fun j hj => hrt c40 (8 * k + j) (by omega))] | rw [nmR_o hk c16 e1 e2 e3] | rw [nmR_o hk c16 (ne_big (by omega) hu (by decide)) (ne_big (by omega) hu (by decide)) (ne_big (by omega) hu (by decide))], rfl⟩)
        · skip
          first | exact absurd c16.1 (nlt0 hu) | exact absurd c16.2 (nle hu) | exact absurd c16.1 (by decide)
      · skip
        exfalso; omega
    · skip
      show j_V g κ 0 0 0 [(0, .ref x0), (1, .int (nI u)), (2, .int (nI k))] [] ([(x0, .inr (5, [.ref tw, .ref r0, .ref tk, .ref m0, .ref ha, .int (nI cnt), .int (if blk = true then (1 : Int32) else 0), .int pl, .ref tn, .ref bn, .ref w0])), (tk, .inr (3, [.ref kb, .int (nI n)])), (kb, .inl (aB g, 2000, .inl (bf t))), (tn, .inl (aB g, 384, .inl (bf v))), (bn, .inl (aB g, 32, .inl (bf v2))), (w0, .inr (0, [.ref nr, .int dbv])), (nr, .inl (aB g, 384, .inl (bf c)))])
      refine j_iload_n (pc := 0) C d_Dsk_name_0 rfl 2 rfl ?_
      refine j_if_ltN (pc := 1) (tgt := 9) C (by omega) d_Dsk_name_1 rfl ?_
      refine j_iload_n (pc := 4) C d_Dsk_name_4 rfl 2 rfl ?_
      refine j_iconst (pc := 5) (v := nI 3) C d_Dsk_name_5 (by decide) ?_
      refine j_icmp_leN (pc := 6) (tgt := 11) C (by omega) (by omega) d_Dsk_name_6 rfl (fun c6 => ?_) (fun c6 => ?_)
      · skip
        refine j_aload_n (pc := 11) C d_Dsk_name_11 rfl 0 rfl ?_
        refine j_iload_n (pc := 12) C d_Dsk_name_12 rfl 1 rfl ?_
        refine j_callV (pc := 13) (As := [.int (nI u)]) (rest := []) (wc := [(x0, .inr (5, [.ref tw, .ref r0, .ref tk, .ref m0, .ref ha, .int (nI cnt), .int (if blk = true then (1 : Int32) else 0), .int pl, .ref tn, .ref bn, .ref w0]))]) (wr := [(tk, .inr (3, [.ref kb, .int (nI n)])), (kb, .inl (aB g, 2000, .inl (bf t))), (tn, .inl (aB g, 384, .inl (bf v))), (bn, .inl (aB g, 32, .inl (bf v2))), (w0, .inr (0, [.ref nr, .int dbv])), (nr, .inl (aB g, 384, .inl (bf c)))]) C (c_Dsk_hasTransaction (kl κ) g x0 tw tk r0 m0 ha tn bn w0 cnt blk pl (nI u) (by omega)) Y_Dsk_hasTransaction ml_Dsk_138 im_Dsk_hasTransaction sl_Dsk_hasTransaction rfl ⟨by decide, by decide⟩ rfl (ci := 5) (q0 := 0) rfl rfl rfl (Nat.le_of_ble_eq_true rfl) (j_sb [0, 1, 2, 3, 4, 5, 6] rfl rfl) rfl d_Dsk_name_13 (fun r w1 hO => ?_)
        obtain ⟨rfl, rfl⟩ := hO
        show j_V g κ 0 0 16 [(0, .ref x0), (1, .int (nI u)), (2, .int (nI k))] [.int (if 0 ≤ nI u ∧ nI u < nI cnt then (1 : Int32) else 0)] ([(x0, .inr (5, [.ref tw, .ref r0, .ref tk, .ref m0, .ref ha, .int (nI cnt), .int (if blk = true then (1 : Int32) else 0), .int pl, .ref tn, .ref bn, .ref w0])), (tk, .inr (3, [.ref kb, .int (nI n)])), (kb, .inl (aB g, 2000, .inl (bf t))), (tn, .inl (aB g, 384, .inl (bf v))), (bn, .inl (aB g, 32, .inl (bf v2))), (w0, .inr (0, [.ref nr, .int dbv])), (nr, .inl (aB g, 384, .inl (bf c)))])
        refine j_if_eqB (pc := 16) (tgt := 36) C d_Dsk_name_16 rfl (fun c16 => ?_) (fun c16 => ?_)
        · skip
          exact absurd ⟨nI_pos' (by omega), nI_lt hu (by omega)⟩ c16
        · skip
          refine j_aload_n (pc := 19) C d_Dsk_name_19 rfl 0 rfl ?_
          refine j_get (pc := 20) C F_Dsk_53 0 rfl rfl d_Dsk_name_20 ?_
          refine j_iload_n (pc := 23) C d_Dsk_name_23 rfl 1 rfl ?_
          refine j_bipush (pc := 24) (v := nI 32) C d_Dsk_name_24 (by decide) ?_
          refine j_imulN (pc := 26) C d_Dsk_name_26 ?_
          refine j_bipush (pc := 27) (v := nI 8) C d_Dsk_name_27 (by decide) ?_
          refine j_iload_n (pc := 29) C d_Dsk_name_29 rfl 2 rfl ?_
          refine j_imulN (pc := 30) C d_Dsk_name_30 ?_
          refine j_iaddN (pc := 31) C d_Dsk_name_31 ?_
          refine j_callS (pc := 32) (As := [.ref tn, .int (nI ((u * 32) + (8 * k)))]) (rest := []) (wc := [(tn, .inl (aB g, 384, .inl (bf v)))]) (wr := [(x0, .inr (5, [.ref tw, .ref r0, .ref tk, .ref m0, .ref ha, .int (nI cnt), .int (if blk = true then (1 : Int32) else 0), .int pl, .ref tn, .ref bn, .ref w0])), (tk, .inr (3, [.ref kb, .int (nI n)])), (kb, .inl (aB g, 2000, .inl (bf t))), (bn, .inl (aB g, 32, .inl (bf v2))), (w0, .inr (0, [.ref nr, .int dbv])), (nr, .inl (aB g, 384, .inl (bf c)))]) C (c_Dsk_eightBytes (kl κ) g tn 384 ((u * 32) + (8 * k)) v (by omega) hv (by omega)) Y_Dsk_eightBytes ml_Dsk_171 sta_Dsk_eightBytes rfl ⟨by decide, by decide⟩ rfl (Nat.le_of_ble_eq_true rfl) (j_sb [3, 0, 1, 2, 4, 5, 6] rfl rfl) rfl d_Dsk_name_32 (fun r w1 hO => ?_)
          obtain ⟨rfl, rfl⟩ := hO
          show j_V g κ 0 0 35 [(0, .ref x0), (1, .int (nI u)), (2, .int (nI k))] [.long (lN (be v ((u * 32) + (8 * k)) 8))] ([(tn, .inl (aB g, 384, .inl (bf v))), (x0, .inr (5, [.ref tw, .ref r0, .ref tk, .ref m0, .ref ha, .int (nI cnt), .int (if blk = true then (1 : Int32) else 0), .int pl, .ref tn, .ref bn, .ref w0])), (tk, .inr (3, [.ref kb, .int (nI n)])), (kb, .inl (aB g, 2000, .inl (bf t))), (bn, .inl (aB g, 32, .inl (bf v2))), (w0, .inr (0, [.ref nr, .int dbv])), (nr, .inl (aB g, 384, .inl (bf c)))])
          refine j_sub (ws' := [(x0, .inr (5, [.ref tw, .ref r0, .ref tk, .ref m0, .ref ha, .int (nI cnt), .int (if blk = true then (1 : Int32) else 0), .int pl, .ref tn, .ref bn, .ref w0])), (tk, .inr (3, [.ref kb, .int (nI n)])), (kb, .inl (aB g, 2000, .inl (bf t))), (tn, .inl (aB g, 384, .inl (bf v))), (bn, .inl (aB g, 32, .inl (bf v2))), (w0, .inr (0, [.ref nr, .int dbv])), (nr, .inl (aB g, 384, .inl (bf c)))]) (j_sb [1, 2, 3, 0, 4, 5, 6] rfl rfl) ?_
          exact hR.2.1 _ _ _ _ d_Dsk_name_35 rfl (⟨by first | rw [nmR_kneg hk] | rw [nmR_kbig hk] | rw [nmR_in hk hu (by omega), ← be_cg (v := v) (u := A u) (p := u * 32 + 8 * k) (q := 8 * k) 8 (fun j hj => by rw [Nat.add_assoc]; exact hnm u hu (8 * k + j) (by omega))] | rw [nmR_n hk c16 c40] | rw [nmR_B hk c40, ← be_cg (v := v2) (p := 8 * k) 8 (fun j hj => hbn c40 (8 * k + j) (by omega))] | rw [nmR_T hk c40] | rw [nmR_R hk c40, ← be_cg (v := c) (p := 8 * k) 8 (fun j hj => hrt c40 (8 * k + j) (by omega))] | rw [nmR_o hk c16 e1 e2 e3] | rw [nmR_o hk c16 (ne_big (by omega) hu (by decide)) (ne_big (by omega) hu (by decide)) (ne_big (by omega) hu (by decide))], rfl⟩)
      · skip
        exfalso; omega
abbrev rm_Dsk_nameTransactions : Room := { frames := 4, cells := 0, slots := 0, locals := 107 }
theorem nmA_s {t v : Nat → Nat} {n : Nat} {s2 : RS} {u b e : Nat} (h : ∀ z, z < u → ∀ j, j < 32 → v (z * 32 + j) = nmA t n s2 z j) (hb : itN (rTx t n) u s2 = .inl b) (he : rTx t n (itN (rTx t n) u s2) = .inl e) {z j : Nat} (hz : z < u + 1) (hj : j < 32) : putF v (u * 32) 32 (nm (fun j => t (b + j)) (e - b)) (z * 32 + j) = nmA t n s2 z j := by
  by_cases q : z = u
  · subst q
    rw [putF_at hj]
    unfold nmA
    rw [show itN (rTx t n) (z + 1) s2 = .inl e from he, hb]
    rfl
  · rw [putF_lo (by omega)]; exact h z (by omega) j hj
set_option maxHeartbeats 4000000 in
set_option maxRecDepth 100000 in
theorem lp_nt {g : JX} {κ : JK} {x0 tw tk r0 m0 ms mw mf ha tn bn w0 cnt kb n : Nat} {blk : Bool} {pl : Int32} {xa : Nat → Nat} {xb : Nat → Nat → Nat} {t : Nat → Nat} {s2 : RS} {y : Nat → Nat → Int32} {f : Nat → Nat → Nat → Int32} (hn : n ≤ 2000) (hT : ∀ j, t j < 256) (hc : cnt ≤ 12) (hA : TxAll t n s2 cnt y f) (hE : 0 < cnt → ∃ e0, itN (rTx t n) cnt s2 = .inl e0) (C : j_C g κ b_Dsk_nameTransactions R_Dsk rm_Dsk_nameTransactions 4) (hR : j_R g κ b_Dsk_nameTransactions none (fun r w1 => ∃ (d1 w2 : Nat → BW) (u1 v1 : Nat → Nat), r = none ∧ w1 = [(x0, .inr (5, [.ref tw, .ref r0, .ref tk, .ref m0, .ref ha, .int (nI cnt), .int (b2 blk), .int pl, .ref tn, .ref bn, .ref w0])), (tk, .inr (3, [.ref kb, .int (nI n)])), (kb, .inl (aB g, 2000, .inl (bf t))), (ha, .inl (aQ g, 12, .inr (.inr (.inr (.inr (fun j => some (xa j))))))), (tn, .inl (aB g, 384, .inl (bf v1))), (m0, .inr (1, [.ref ms, .ref mw, .ref mf])), (ms, .inl (aI g, 8, .inl (wf d1))), (mw, .inl (aI g, 64, .inl (wf w2))), (mf, .inl (aB g, 32, .inl (bf u1)))] ++ txs g xa xb y f ∧ (∀ j, u1 j < 256) ∧ (∀ j, v1 j < 256) ∧ ∀ u, u < cnt → ∀ j, j < 32 → v1 (u * 32 + j) = nmA t n s2 u j) 0 0) : ∀ (k : Nat) (u : Nat) (d w : Nat → BW) (u0 v : Nat → Nat), u ≤ cnt → cnt + 1 ≤ u + k → (∀ j, u0 j < 256) → (∀ j, v j < 256) → (∀ z, z < u → ∀ j, j < 32 → v (z * 32 + j) = nmA t n s2 z j) → j_V g κ (0) (0) 2 [(0, .ref x0), (1, .int (nI u))] [] ([(x0, .inr (5, [.ref tw, .ref r0, .ref tk, .ref m0, .ref ha, .int (nI cnt), .int (b2 blk), .int pl, .ref tn, .ref bn, .ref w0])), (tk, .inr (3, [.ref kb, .int (nI n)])), (kb, .inl (aB g, 2000, .inl (bf t))), (ha, .inl (aQ g, 12, .inr (.inr (.inr (.inr (fun j => some (xa j))))))), (tn, .inl (aB g, 384, .inl (bf v))), (m0, .inr (1, [.ref ms, .ref mw, .ref mf])), (ms, .inl (aI g, 8, .inl (wf d))), (mw, .inl (aI g, 64, .inl (wf w))), (mf, .inl (aB g, 32, .inl (bf u0)))] ++ txs g xa xb y f) := by
  intro k
  induction k with
  | zero =>
    intro u d w u0 v hu hk hu0 hv hnm
    exfalso; omega
  | succ k ih =>
    intro u d w u0 v hu hk hu0 hv hnm
    refine j_iload_n (pc := 2) C d_Dsk_nameTransactions_2 rfl 1 rfl ?_
    refine j_aload_n (pc := 3) C d_Dsk_nameTransactions_3 rfl 0 rfl ?_
    refine j_get (pc := 4) C F_Dsk_42 0 rfl rfl d_Dsk_nameTransactions_4 ?_
    refine j_icmp_geN (pc := 7) (tgt := 68) C (by omega) (by omega) d_Dsk_nameTransactions_7 rfl (fun c7 => ?_) (fun c7 => ?_)
    · skip
      exact hR.2.2 _ _ _ d_Dsk_nameTransactions_68 rfl (⟨d, w, u0, v, rfl, rfl, hu0, hv, fun z hz => hnm z (by omega)⟩)
    · skip
      refine j_iload_n (pc := 10) C d_Dsk_nameTransactions_10 rfl 1 rfl ?_
      refine j_bipush (pc := 11) (v := nI 12) C d_Dsk_nameTransactions_11 (by decide) ?_
      refine j_icmp_geN (pc := 13) (tgt := 68) C (by omega) (by omega) d_Dsk_nameTransactions_13 rfl (fun c13 => ?_) (fun c13 => ?_)
      · skip
        exfalso; omega
      · skip
        obtain ⟨e0, hE0⟩ := hE (by omega)
        obtain ⟨b, e, hb, he, hbe, hen, he4⟩ := tx_st hE0 c7
        obtain ⟨h0, h1, -, -, -, -⟩ := hA u c7 e he
        refine j_aload_n (pc := 16) C d_Dsk_nameTransactions_16 rfl 0 rfl ?_
        refine j_get (pc := 17) C F_Dsk_38 0 rfl rfl d_Dsk_nameTransactions_17 ?_
        refine j_iload_n (pc := 20) C d_Dsk_nameTransactions_20 rfl 1 rfl ?_
        refine j_aaldN (pc := 21) (b := xa u) C 3 2 rfl rfl (by omega) (by omega) rfl d_Dsk_nameTransactions_21 ?_
        refine j_getM (pc := 22) C F_Dsk_141 (List.mem_append_right _ (txs_mem (u := u) (by omega) txc_0)) rfl d_Dsk_nameTransactions_22 ?_
        refine j_rwi (y := nI b) (by rw [h0, hb]; rfl) ?_
        refine j_istore_n (pc := 25) (lv' := [(2, .int (nI b)), (0, .ref x0), (1, .int (nI u))]) C d_Dsk_nameTransactions_25 rfl (by decide) rfl ?_
        refine j_aload_n (pc := 26) C d_Dsk_nameTransactions_26 rfl 1 rfl ?_
        refine j_get (pc := 27) C F_Dsk_38 0 rfl rfl d_Dsk_nameTransactions_27 ?_
        refine j_iload_n (pc := 30) C d_Dsk_nameTransactions_30 rfl 2 rfl ?_
        refine j_aaldN (pc := 31) (b := xa u) C 3 2 rfl rfl (by omega) (by omega) rfl d_Dsk_nameTransactions_31 ?_
        refine j_getM (pc := 32) C F_Dsk_149 (List.mem_append_right _ (txs_mem (u := u) (by omega) txc_0)) rfl d_Dsk_nameTransactions_32 ?_
        refine j_rwi (y := nI e) (h1) ?_
        refine j_iload_n (pc := 35) C d_Dsk_nameTransactions_35 rfl 0 rfl ?_
        refine j_isubN (pc := 36) C (by omega) d_Dsk_nameTransactions_36 ?_
        refine j_istore_n (pc := 37) (lv' := [(3, .int (nI (e - b))), (2, .int (nI b)), (0, .ref x0), (1, .int (nI u))]) C d_Dsk_nameTransactions_37 rfl (by decide) rfl ?_
        refine j_aload_n (pc := 38) C d_Dsk_nameTransactions_38 rfl 2 rfl ?_
        refine j_get (pc := 39) C F_Dsk_32 0 rfl rfl d_Dsk_nameTransactions_39 ?_
        refine j_aload_n (pc := 42) C d_Dsk_nameTransactions_42 rfl 2 rfl ?_
        refine j_get (pc := 43) C F_Dsk_26 0 rfl rfl d_Dsk_nameTransactions_43 ?_
        refine j_get (pc := 46) C F_Dsk_118 1 rfl rfl d_Dsk_nameTransactions_46 ?_
        refine j_iload_n (pc := 49) C d_Dsk_nameTransactions_49 rfl 1 rfl ?_
        refine j_iload_n (pc := 50) C d_Dsk_nameTransactions_50 rfl 0 rfl ?_
        refine j_aload_n (pc := 51) C d_Dsk_nameTransactions_51 rfl 2 rfl ?_
        refine j_get (pc := 52) C F_Dsk_53 0 rfl rfl d_Dsk_nameTransactions_52 ?_
        refine j_iload_n (pc := 55) C d_Dsk_nameTransactions_55 rfl 3 rfl ?_
        refine j_bipush (pc := 56) (v := nI 32) C d_Dsk_nameTransactions_56 (by decide) ?_
        refine j_imulN (pc := 58) C d_Dsk_nameTransactions_58 ?_
        refine j_callV (pc := 59) (As := [.ref kb, .int (nI b), .int (nI (e - b)), .ref tn, .int (nI (u * 32))]) (rest := []) (wc := [(m0, .inr (1, [.ref ms, .ref mw, .ref mf])), (ms, .inl (aI g, 8, .inl (wf d))), (mw, .inl (aI g, 64, .inl (wf w))), (mf, .inl (aB g, 32, .inl (bf u0))), (kb, .inl (aB g, 2000, .inl (bf t))), (tn, .inl (aB g, 384, .inl (bf v)))]) (wr := [(x0, .inr (5, [.ref tw, .ref r0, .ref tk, .ref m0, .ref ha, .int (nI cnt), .int (b2 blk), .int pl, .ref tn, .ref bn, .ref w0])), (tk, .inr (3, [.ref kb, .int (nI n)])), (ha, .inl (aQ g, 12, .inr (.inr (.inr (.inr (fun j => some (xa j)))))))] ++ txs g xa xb y f) C (c_Nam_writeName (kl κ) g m0 ms mw mf kb tn 2000 384 b (e - b) (u * 32) t u0 v d w (by omega) (by omega) hT hu0 (by omega) (by omega)) Y_Nam_writeName ml_Dsk_121 im_Nam_writeName sl_Nam_writeName rfl ⟨by decide, by decide⟩ rfl (ci := 1) (q0 := 0) rfl rfl rfl (Nat.le_of_ble_eq_true rfl) (by exact j_Sb.app (a := [(x0, .inr (5, [.ref tw, .ref r0, .ref tk, .ref m0, .ref ha, .int (nI cnt), .int (b2 blk), .int pl, .ref tn, .ref bn, .ref w0])), (tk, .inr (3, [.ref kb, .int (nI n)])), (kb, .inl (aB g, 2000, .inl (bf t))), (ha, .inl (aQ g, 12, .inr (.inr (.inr (.inr (fun j => some (xa j))))))), (tn, .inl (aB g, 384, .inl (bf v))), (m0, .inr (1, [.ref ms, .ref mw, .ref mf])), (ms, .inl (aI g, 8, .inl (wf d))), (mw, .inl (aI g, 64, .inl (wf w))), (mf, .inl (aB g, 32, .inl (bf u0)))]) (b := [(m0, .inr (1, [.ref ms, .ref mw, .ref mf])), (ms, .inl (aI g, 8, .inl (wf d))), (mw, .inl (aI g, 64, .inl (wf w))), (mf, .inl (aB g, 32, .inl (bf u0))), (kb, .inl (aB g, 2000, .inl (bf t))), (tn, .inl (aB g, 384, .inl (bf v))), (x0, .inr (5, [.ref tw, .ref r0, .ref tk, .ref m0, .ref ha, .int (nI cnt), .int (b2 blk), .int pl, .ref tn, .ref bn, .ref w0])), (tk, .inr (3, [.ref kb, .int (nI n)])), (ha, .inl (aQ g, 12, .inr (.inr (.inr (.inr (fun j => some (xa j)))))))]) (j_sb [5, 6, 7, 8, 2, 4, 0, 1, 3] rfl rfl) (txs g xa xb y f)) rfl d_Dsk_nameTransactions_59 (fun r w1 hO => ?_)
        obtain ⟨d1, w1, u1, rfl, rfl, hu1⟩ := hO
        show j_V g κ 0 0 62 [(3, .int (nI (e - b))), (2, .int (nI b)), (0, .ref x0), (1, .int (nI u))] [] ([(m0, .inr (1, [.ref ms, .ref mw, .ref mf])), (ms, .inl (aI g, 8, .inl (wf d1))), (mw, .inl (aI g, 64, .inl (wf w1))), (mf, .inl (aB g, 32, .inl (bf u1))), (kb, .inl (aB g, 2000, .inl (bf t))), (tn, .inl (aB g, 384, .inl (bf (putF v (u * 32) 32 (nm (fun j => t (b + j)) (e - b)))))), (x0, .inr (5, [.ref tw, .ref r0, .ref tk, .ref m0, .ref ha, .int (nI cnt), .int (b2 blk), .int pl, .ref tn, .ref bn, .ref w0])), (tk, .inr (3, [.ref kb, .int (nI n)])), (ha, .inl (aQ g, 12, .inr (.inr (.inr (.inr (fun j => some (xa j)))))))] ++ txs g xa xb y f)
        refine j_iinc (pc := 62) (k := 3) (v := nI (u + 1)) (lv' := [(1, .int (nI (u + 1))), (3, .int (nI (e - b))), (2, .int (nI b)), (0, .ref x0)]) C d_Dsk_nameTransactions_62 rfl (j_inc _ _) (by decide) rfl ?_
        refine j_goto (pc := 65) (tgt := 2) C d_Dsk_nameTransactions_65 rfl ?_
        refine j_lv (lv' := [(0, .ref x0), (1, .int (nI (u + 1)))]) [3, 0] rfl ?_
        refine j_sub (ws' := [(x0, .inr (5, [.ref tw, .ref r0, .ref tk, .ref m0, .ref ha, .int (nI cnt), .int (b2 blk), .int pl, .ref tn, .ref bn, .ref w0])), (tk, .inr (3, [.ref kb, .int (nI n)])), (kb, .inl (aB g, 2000, .inl (bf t))), (ha, .inl (aQ g, 12, .inr (.inr (.inr (.inr (fun j => some (xa j))))))), (tn, .inl (aB g, 384, .inl (bf (putF v (u * 32) 32 (nm (fun j => t (b + j)) (e - b)))))), (m0, .inr (1, [.ref ms, .ref mw, .ref mf])), (ms, .inl (aI g, 8, .inl (wf d1))), (mw, .inl (aI g, 64, .inl (wf w1))), (mf, .inl (aB g, 32, .inl (bf u1)))] ++ txs g xa xb y f) (by exact j_Sb.app (a := [(m0, .inr (1, [.ref ms, .ref mw, .ref mf])), (ms, .inl (aI g, 8, .inl (wf d1))), (mw, .inl (aI g, 64, .inl (wf w1))), (mf, .inl (aB g, 32, .inl (bf u1))), (kb, .inl (aB g, 2000, .inl (bf t))), (tn, .inl (aB g, 384, .inl (bf (putF v (u * 32) 32 (nm (fun j => t (b + j)) (e - b)))))), (x0, .inr (5, [.ref tw, .ref r0, .ref tk, .ref m0, .ref ha, .int (nI cnt), .int (b2 blk), .int pl, .ref tn, .ref bn, .ref w0])), (tk, .inr (3, [.ref kb, .int (nI n)])), (ha, .inl (aQ g, 12, .inr (.inr (.inr (.inr (fun j => some (xa j)))))))]) (b := [(x0, .inr (5, [.ref tw, .ref r0, .ref tk, .ref m0, .ref ha, .int (nI cnt), .int (b2 blk), .int pl, .ref tn, .ref bn, .ref w0])), (tk, .inr (3, [.ref kb, .int (nI n)])), (kb, .inl (aB g, 2000, .inl (bf t))), (ha, .inl (aQ g, 12, .inr (.inr (.inr (.inr (fun j => some (xa j))))))), (tn, .inl (aB g, 384, .inl (bf (putF v (u * 32) 32 (nm (fun j => t (b + j)) (e - b)))))), (m0, .inr (1, [.ref ms, .ref mw, .ref mf])), (ms, .inl (aI g, 8, .inl (wf d1))), (mw, .inl (aI g, 64, .inl (wf w1))), (mf, .inl (aB g, 32, .inl (bf u1)))]) (j_sb [6, 7, 4, 8, 5, 0, 1, 2, 3] rfl rfl) (txs g xa xb y f)) ?_
        exact ih (u + 1) d1 w1 u1 _ (by omega) (by omega) hu1 (putF_lt hv (fun _ => nm_lt _ _ _)) (fun z hz j hj => nmA_s hnm hb he hz hj)
set_option maxHeartbeats 4000000 in
set_option maxRecDepth 100000 in
theorem c_Dsk_nameTransactions (l : Launch) (g : JX) (x0 tw tk r0 m0 ha tn bn w0 cnt : Nat) (blk : Bool) (pl : Int32) (ms mw mf kb n : Nat) (xa : Nat → Nat) (xb : Nat → Nat → Nat) (t : Nat → Nat) (s2 : RS) (y : Nat → Nat → Int32) (f : Nat → Nat → Nat → Int32) (d w : Nat → BW) (u0 v : Nat → Nat) (hn : n ≤ 2000) (hT : ∀ j, t j < 256) (hc : cnt ≤ 12) (hA : TxAll t n s2 cnt y f) (hE : 0 < cnt → ∃ e0, itN (rTx t n) cnt s2 = .inl e0) (hu0 : ∀ j, u0 j < 256) (hv : ∀ j, v j < 256) : j_Ct l y_Dsk_nameTransactions b_Dsk_nameTransactions 4 none rm_Dsk_nameTransactions g ([(x0, .inr (5, [.ref tw, .ref r0, .ref tk, .ref m0, .ref ha, .int (nI cnt), .int (b2 blk), .int pl, .ref tn, .ref bn, .ref w0])), (tk, .inr (3, [.ref kb, .int (nI n)])), (kb, .inl (aB g, 2000, .inl (bf t))), (ha, .inl (aQ g, 12, .inr (.inr (.inr (.inr (fun j => some (xa j))))))), (tn, .inl (aB g, 384, .inl (bf v))), (m0, .inr (1, [.ref ms, .ref mw, .ref mf])), (ms, .inl (aI g, 8, .inl (wf d))), (mw, .inl (aI g, 64, .inl (wf w))), (mf, .inl (aB g, 32, .inl (bf u0)))] ++ txs g xa xb y f) [.ref x0] (fun r w1 => ∃ (d1 w2 : Nat → BW) (u1 v1 : Nat → Nat), r = none ∧ w1 = [(x0, .inr (5, [.ref tw, .ref r0, .ref tk, .ref m0, .ref ha, .int (nI cnt), .int (b2 blk), .int pl, .ref tn, .ref bn, .ref w0])), (tk, .inr (3, [.ref kb, .int (nI n)])), (kb, .inl (aB g, 2000, .inl (bf t))), (ha, .inl (aQ g, 12, .inr (.inr (.inr (.inr (fun j => some (xa j))))))), (tn, .inl (aB g, 384, .inl (bf v1))), (m0, .inr (1, [.ref ms, .ref mw, .ref mf])), (ms, .inl (aI g, 8, .inl (wf d1))), (mw, .inl (aI g, 64, .inl (wf w2))), (mf, .inl (aB g, 32, .inl (bf u1)))] ++ txs g xa xb y f ∧ (∀ j, u1 j < 256) ∧ (∀ j, v1 j < 256) ∧ ∀ u, u < cnt → ∀ j, j < 32 → v1 (u * 32 + j) = nmA t n s2 u j) 0 0 := by
  refine j_ct (by decide) (Nat.le_of_ble_eq_true rfl) (fun κ hkl C hR hI => ?_)
  show j_V g κ 0 0 0 [(0, .ref x0)] [] ([(x0, .inr (5, [.ref tw, .ref r0, .ref tk, .ref m0, .ref ha, .int (nI cnt), .int (b2 blk), .int pl, .ref tn, .ref bn, .ref w0])), (tk, .inr (3, [.ref kb, .int (nI n)])), (kb, .inl (aB g, 2000, .inl (bf t))), (ha, .inl (aQ g, 12, .inr (.inr (.inr (.inr (fun j => some (xa j))))))), (tn, .inl (aB g, 384, .inl (bf v))), (m0, .inr (1, [.ref ms, .ref mw, .ref mf])), (ms, .inl (aI g, 8, .inl (wf d))), (mw, .inl (aI g, 64, .inl (wf w))), (mf, .inl (aB g, 32, .inl (bf u0)))] ++ txs g xa xb y f)
  refine j_iconst (pc := 0) (v := nI 0) C d_Dsk_nameTransactions_0 (by decide) ?_
  refine j_istore_n (pc := 1) (lv' := [(1, .int (nI 0)), (0, .ref x0)]) C d_Dsk_nameTransactions_1 rfl (by decide) rfl ?_
  refine j_lv (lv' := [(0, .ref x0), (1, .int (nI 0))]) [1, 0] rfl ?_
  exact lp_nt (x0 := x0) (tw := tw) (tk := tk) (r0 := r0) (m0 := m0) (ms := ms) (mw := mw) (mf := mf) (ha := ha) (tn := tn) (bn := bn) (w0 := w0) (cnt := cnt) (kb := kb) (n := n) (blk := blk) (pl := pl) (xa := xa) (xb := xb) (t := t) (s2 := s2) (y := y) (f := f) hn hT hc hA hE C hR 13 0 d w u0 v (by omega) (by omega) hu0 hv (fun z hz => absurd hz (by omega))
