abbrev rm_Dsk_place : Room := { frames := 0, cells := 0, slots := 0, locals := 0 }
set_option maxHeartbeats 4000000 in
set_option maxRecDepth 100000 in
theorem c_Dsk_place (l : Launch) (g : JX) (x0 tw tk r0 m0 ha tn bn w0 cnt : Nat) (blk : Bool) (pl : Int32)  : j_Ct l y_Dsk_place b_Dsk_place 1 (some .int) rm_Dsk_place g ([(x0, .inr (5, [.ref tw, .ref r0, .ref tk, .ref m0, .ref ha, .int (nI cnt), .int (b2 blk), .int pl, .ref tn, .ref bn, .ref w0]))]) [.ref x0] (fun r w => r = some (.int pl) ∧ w = [(x0, .inr (5, [.ref tw, .ref r0, .ref tk, .ref m0, .ref ha, .int (nI cnt), .int (b2 blk), .int pl, .ref tn, .ref bn, .ref w0]))]) 0 0 := by
  refine j_ct (by decide) (Nat.le_of_ble_eq_true rfl) (fun κ hkl C hR hI => ?_)
  show j_V g κ 0 0 0 [(0, .ref x0)] [] ([(x0, .inr (5, [.ref tw, .ref r0, .ref tk, .ref m0, .ref ha, .int (nI cnt), .int (b2 blk), .int pl, .ref tn, .ref bn, .ref w0]))])
  refine j_aload_n (pc := 0) C d_Dsk_place_0 rfl 0 rfl ?_
  refine j_get (pc := 1) C F_Dsk_50 0 rfl rfl d_Dsk_place_1 ?_
  exact hR.1 _ _ _ _ d_Dsk_place_4 ⟨_, rfl, by first | rfl | decide⟩ (⟨rfl, rfl⟩)
abbrev rm_Dsk_byteOf : Room := { frames := 1, cells := 0, slots := 0, locals := 21 }
set_option maxHeartbeats 4000000 in
set_option maxRecDepth 100000 in
theorem c_Dsk_byteOf (l : Launch) (g : JX) (x0 tw tk r0 m0 ha tn bn w0 cnt : Nat) (blk : Bool) (pl : Int32) (kb n : Nat) (t : Nat → Nat) (x : Int32) (hn : n ≤ 2000) (hT : ∀ j, t j < 256) : j_Ct l y_Dsk_byteOf b_Dsk_byteOf 2 (some .int) rm_Dsk_byteOf g ([(x0, .inr (5, [.ref tw, .ref r0, .ref tk, .ref m0, .ref ha, .int (nI cnt), .int (b2 blk), .int pl, .ref tn, .ref bn, .ref w0])), (tk, .inr (3, [.ref kb, .int (nI n)])), (kb, .inl (aB g, 2000, .inl (bf t)))]) [.ref x0, .int x] (fun r w => r = some (.int (atI t n x)) ∧ w = [(x0, .inr (5, [.ref tw, .ref r0, .ref tk, .ref m0, .ref ha, .int (nI cnt), .int (b2 blk), .int pl, .ref tn, .ref bn, .ref w0])), (tk, .inr (3, [.ref kb, .int (nI n)])), (kb, .inl (aB g, 2000, .inl (bf t)))]) 0 0 := by
  refine j_ct (by decide) (Nat.le_of_ble_eq_true rfl) (fun κ hkl C hR hI => ?_)
  show j_V g κ 0 0 0 [(0, .ref x0), (1, .int x)] [] ([(x0, .inr (5, [.ref tw, .ref r0, .ref tk, .ref m0, .ref ha, .int (nI cnt), .int (b2 blk), .int pl, .ref tn, .ref bn, .ref w0])), (tk, .inr (3, [.ref kb, .int (nI n)])), (kb, .inl (aB g, 2000, .inl (bf t)))])
  refine j_aload_n (pc := 0) C d_Dsk_byteOf_0 rfl 0 rfl ?_
  refine j_get (pc := 1) C F_Dsk_26 0 rfl rfl d_Dsk_byteOf_1 ?_
  refine j_iload_n (pc := 4) C d_Dsk_byteOf_4 rfl 1 rfl ?_
  refine j_callV (pc := 5) (As := [.int x]) (rest := []) (wc := [(tk, .inr (3, [.ref kb, .int (nI n)])), (kb, .inl (aB g, 2000, .inl (bf t)))]) (wr := [(x0, .inr (5, [.ref tw, .ref r0, .ref tk, .ref m0, .ref ha, .int (nI cnt), .int (b2 blk), .int pl, .ref tn, .ref bn, .ref w0]))]) C (c_Txt_at (kl κ) g tk kb n t x (by omega) hT) Y_Txt_at ml_Dsk_129 im_Txt_at sl_Txt_at rfl ⟨by decide, by decide⟩ rfl (ci := 3) (q0 := 0) rfl rfl rfl (Nat.le_of_ble_eq_true rfl) (j_sb [1, 2, 0] rfl rfl) rfl d_Dsk_byteOf_5 (fun r w1 hO => ?_)
  obtain ⟨rfl, rfl⟩ := hO
  show j_V g κ 0 0 8 [(0, .ref x0), (1, .int x)] [.int (atI t n x)] ([(tk, .inr (3, [.ref kb, .int (nI n)])), (kb, .inl (aB g, 2000, .inl (bf t))), (x0, .inr (5, [.ref tw, .ref r0, .ref tk, .ref m0, .ref ha, .int (nI cnt), .int (b2 blk), .int pl, .ref tn, .ref bn, .ref w0]))])
  refine j_sub (ws' := [(x0, .inr (5, [.ref tw, .ref r0, .ref tk, .ref m0, .ref ha, .int (nI cnt), .int (b2 blk), .int pl, .ref tn, .ref bn, .ref w0])), (tk, .inr (3, [.ref kb, .int (nI n)])), (kb, .inl (aB g, 2000, .inl (bf t)))]) (j_sb [2, 0, 1] rfl rfl) ?_
  exact hR.1 _ _ _ _ d_Dsk_byteOf_8 ⟨_, rfl, by first | rfl | decide⟩ (⟨rfl, rfl⟩)
theorem b2_if (b : Bool) : b2 b = (if b = true then (1 : Int32) else 0) := rfl
abbrev rm_Dsk_isDoubtful : Room := { frames := 0, cells := 0, slots := 0, locals := 0 }
set_option maxHeartbeats 4000000 in
set_option maxRecDepth 100000 in
theorem c_Dsk_isDoubtful (l : Launch) (g : JX) (x0 tw tk r0 m0 ha tn bn w0 cnt : Nat) (blk : Bool) (pl : Int32) (nr : Nat) (db : Bool)  : j_Ct l y_Dsk_isDoubtful b_Dsk_isDoubtful 1 (some .boolean) rm_Dsk_isDoubtful g ([(x0, .inr (5, [.ref tw, .ref r0, .ref tk, .ref m0, .ref ha, .int (nI cnt), .int (if blk = true then (1 : Int32) else 0), .int pl, .ref tn, .ref bn, .ref w0])), (w0, .inr (0, [.ref nr, .int (if db = true then (1 : Int32) else 0)]))]) [.ref x0] (fun r w => r = some (.int (b2 (blk && db))) ∧ w = [(x0, .inr (5, [.ref tw, .ref r0, .ref tk, .ref m0, .ref ha, .int (nI cnt), .int (b2 blk), .int pl, .ref tn, .ref bn, .ref w0])), (w0, .inr (0, [.ref nr, .int (b2 db)]))]) 0 0 := by
  refine j_ct (by decide) (Nat.le_of_ble_eq_true rfl) (fun κ hkl C hR hI => ?_)
  show j_V g κ 0 0 0 [(0, .ref x0)] [] ([(x0, .inr (5, [.ref tw, .ref r0, .ref tk, .ref m0, .ref ha, .int (nI cnt), .int (if blk = true then (1 : Int32) else 0), .int pl, .ref tn, .ref bn, .ref w0])), (w0, .inr (0, [.ref nr, .int (if db = true then (1 : Int32) else 0)]))])
  refine j_aload_n (pc := 0) C d_Dsk_isDoubtful_0 rfl 0 rfl ?_
  refine j_get (pc := 1) C F_Dsk_46 0 rfl rfl d_Dsk_isDoubtful_1 ?_
  refine j_if_eqB (pc := 4) (tgt := 21) C d_Dsk_isDoubtful_4 rfl (fun c4 => ?_) (fun c4 => ?_)
  · skip
    refine j_iconst (pc := 21) (v := nI 0) C d_Dsk_isDoubtful_21 (by decide) ?_
    exact hR.1 _ _ _ _ d_Dsk_isDoubtful_22 ⟨_, rfl, by first | rfl | decide⟩ (⟨by first | rw [c4, c14]; rfl | rw [c4, Bool.eq_false_iff.mpr c14]; rfl | rw [Bool.eq_false_iff.mpr c4]; rfl, rfl⟩)
  · skip
    refine j_aload_n (pc := 7) C d_Dsk_isDoubtful_7 rfl 0 rfl ?_
    refine j_get (pc := 8) C F_Dsk_63 0 rfl rfl d_Dsk_isDoubtful_8 ?_
    refine j_get (pc := 11) C F_Dsk_178 1 rfl rfl d_Dsk_isDoubtful_11 ?_
    refine j_if_eqB (pc := 14) (tgt := 21) C d_Dsk_isDoubtful_14 rfl (fun c14 => ?_) (fun c14 => ?_)
    · skip
      refine j_iconst (pc := 21) (v := nI 0) C d_Dsk_isDoubtful_21 (by decide) ?_
      exact hR.1 _ _ _ _ d_Dsk_isDoubtful_22 ⟨_, rfl, by first | rfl | decide⟩ (⟨by first | rw [c4, c14]; rfl | rw [c4, Bool.eq_false_iff.mpr c14]; rfl | rw [Bool.eq_false_iff.mpr c4]; rfl, rfl⟩)
    · skip
      refine j_iconst (pc := 17) (v := nI 1) C d_Dsk_isDoubtful_17 (by decide) ?_
      refine j_goto (pc := 18) (tgt := 22) C d_Dsk_isDoubtful_18 rfl ?_
      exact hR.1 _ _ _ _ d_Dsk_isDoubtful_22 ⟨_, rfl, by first | rfl | decide⟩ (⟨by first | rw [c4, c14]; rfl | rw [c4, Bool.eq_false_iff.mpr c14]; rfl | rw [Bool.eq_false_iff.mpr c4]; rfl, rfl⟩)
abbrev rm_Dsk_hasTransaction : Room := { frames := 0, cells := 0, slots := 0, locals := 0 }
set_option maxHeartbeats 4000000 in
set_option maxRecDepth 100000 in
theorem c_Dsk_hasTransaction (l : Launch) (g : JX) (x0 tw tk r0 m0 ha tn bn w0 cnt : Nat) (blk : Bool) (pl : Int32) (tt : Int32) (hc : cnt ≤ 12) : j_Ct l y_Dsk_hasTransaction b_Dsk_hasTransaction 2 (some .boolean) rm_Dsk_hasTransaction g ([(x0, .inr (5, [.ref tw, .ref r0, .ref tk, .ref m0, .ref ha, .int (nI cnt), .int (b2 blk), .int pl, .ref tn, .ref bn, .ref w0]))]) [.ref x0, .int tt] (fun r w => r = some (.int (if 0 ≤ tt ∧ tt < nI cnt then (1 : Int32) else 0)) ∧ w = [(x0, .inr (5, [.ref tw, .ref r0, .ref tk, .ref m0, .ref ha, .int (nI cnt), .int (b2 blk), .int pl, .ref tn, .ref bn, .ref w0]))]) 0 0 := by
  refine j_ct (by decide) (Nat.le_of_ble_eq_true rfl) (fun κ hkl C hR hI => ?_)
  show j_V g κ 0 0 0 [(0, .ref x0), (1, .int tt)] [] ([(x0, .inr (5, [.ref tw, .ref r0, .ref tk, .ref m0, .ref ha, .int (nI cnt), .int (b2 blk), .int pl, .ref tn, .ref bn, .ref w0]))])
  rcases pk_ix tt (n := cnt) (by omega) with hx | hx | ⟨u, hu, rfl⟩
  · skip
    show j_V g κ 0 0 0 [(0, .ref x0), (1, .int tt)] [] ([(x0, .inr (5, [.ref tw, .ref r0, .ref tk, .ref m0, .ref ha, .int (nI cnt), .int (b2 blk), .int pl, .ref tn, .ref bn, .ref w0]))])
    refine j_iload_n (pc := 0) C d_Dsk_hasTransaction_0 rfl 1 rfl ?_
    refine j_if_lt (pc := 1) (tgt := 22) C d_Dsk_hasTransaction_1 rfl (fun c1 => ?_) (fun c1 => ?_)
    · skip
      refine j_iconst (pc := 22) (v := nI 0) C d_Dsk_hasTransaction_22 (by decide) ?_
      exact hR.1 _ _ _ _ d_Dsk_hasTransaction_23 ⟨_, rfl, by first | rfl | decide⟩ (⟨by first | (exfalso; omega) | (rw [if_neg (fun q => nlt0 (by assumption) q.1)]; rfl) | (rw [if_neg (fun q => nle (by assumption) q.2)]; rfl) | (rw [if_pos ⟨nI_pos' (by omega), nI_lt hu (by omega)⟩]; rfl), rfl⟩)
    · skip
      refine j_iload_n (pc := 4) C d_Dsk_hasTransaction_4 rfl 1 rfl ?_
      refine j_aload_n (pc := 5) C d_Dsk_hasTransaction_5 rfl 0 rfl ?_
      refine j_get (pc := 6) C F_Dsk_42 0 rfl rfl d_Dsk_hasTransaction_6 ?_
      refine j_icmp_ge (pc := 9) (tgt := 22) C d_Dsk_hasTransaction_9 rfl (fun c9 => ?_) (fun c9 => ?_)
      · skip
        refine j_iconst (pc := 22) (v := nI 0) C d_Dsk_hasTransaction_22 (by decide) ?_
        exact hR.1 _ _ _ _ d_Dsk_hasTransaction_23 ⟨_, rfl, by first | rfl | decide⟩ (⟨by first | (exfalso; omega) | (rw [if_neg (fun q => nlt0 (by assumption) q.1)]; rfl) | (rw [if_neg (fun q => nle (by assumption) q.2)]; rfl) | (rw [if_pos ⟨nI_pos' (by omega), nI_lt hu (by omega)⟩]; rfl), rfl⟩)
      · skip
        first | exact absurd (by assumption) c9 | exact absurd (by assumption) c1
  · skip
    show j_V g κ 0 0 0 [(0, .ref x0), (1, .int tt)] [] ([(x0, .inr (5, [.ref tw, .ref r0, .ref tk, .ref m0, .ref ha, .int (nI cnt), .int (b2 blk), .int pl, .ref tn, .ref bn, .ref w0]))])
    refine j_iload_n (pc := 0) C d_Dsk_hasTransaction_0 rfl 1 rfl ?_
    refine j_if_lt (pc := 1) (tgt := 22) C d_Dsk_hasTransaction_1 rfl (fun c1 => ?_) (fun c1 => ?_)
    · skip
      refine j_iconst (pc := 22) (v := nI 0) C d_Dsk_hasTransaction_22 (by decide) ?_
      exact hR.1 _ _ _ _ d_Dsk_hasTransaction_23 ⟨_, rfl, by first | rfl | decide⟩ (⟨by first | (exfalso; omega) | (rw [if_neg (fun q => nlt0 (by assumption) q.1)]; rfl) | (rw [if_neg (fun q => nle (by assumption) q.2)]; rfl) | (rw [if_pos ⟨nI_pos' (by omega), nI_lt hu (by omega)⟩]; rfl), rfl⟩)
    · skip
      refine j_iload_n (pc := 4) C d_Dsk_hasTransaction_4 rfl 1 rfl ?_
      refine j_aload_n (pc := 5) C d_Dsk_hasTransaction_5 rfl 0 rfl ?_
      refine j_get (pc := 6) C F_Dsk_42 0 rfl rfl d_Dsk_hasTransaction_6 ?_
      refine j_icmp_ge (pc := 9) (tgt := 22) C d_Dsk_hasTransaction_9 rfl (fun c9 => ?_) (fun c9 => ?_)
      · skip
        refine j_iconst (pc := 22) (v := nI 0) C d_Dsk_hasTransaction_22 (by decide) ?_
        exact hR.1 _ _ _ _ d_Dsk_hasTransaction_23 ⟨_, rfl, by first | rfl | decide⟩ (⟨by first | (exfalso; omega) | (rw [if_neg (fun q => nlt0 (by assumption) q.1)]; rfl) | (rw [if_neg (fun q => nle (by assumption) q.2)]; rfl) | (rw [if_pos ⟨nI_pos' (by omega), nI_lt hu (by omega)⟩]; rfl), rfl⟩)
      · skip
        first | exact absurd (by assumption) c9 | exact absurd (by assumption) c1
  · skip
    show j_V g κ 0 0 0 [(0, .ref x0), (1, .int (nI u))] [] ([(x0, .inr (5, [.ref tw, .ref r0, .ref tk, .ref m0, .ref ha, .int (nI cnt), .int (b2 blk), .int pl, .ref tn, .ref bn, .ref w0]))])
    refine j_iload_n (pc := 0) C d_Dsk_hasTransaction_0 rfl 1 rfl ?_
    refine j_if_ltN (pc := 1) (tgt := 22) C (by omega) d_Dsk_hasTransaction_1 rfl ?_
    refine j_iload_n (pc := 4) C d_Dsk_hasTransaction_4 rfl 1 rfl ?_
    refine j_aload_n (pc := 5) C d_Dsk_hasTransaction_5 rfl 0 rfl ?_
    refine j_get (pc := 6) C F_Dsk_42 0 rfl rfl d_Dsk_hasTransaction_6 ?_
    refine j_icmp_geN (pc := 9) (tgt := 22) C (by omega) (by omega) d_Dsk_hasTransaction_9 rfl (fun c9 => ?_) (fun c9 => ?_)
    · skip
      refine j_iconst (pc := 22) (v := nI 0) C d_Dsk_hasTransaction_22 (by decide) ?_
      exact hR.1 _ _ _ _ d_Dsk_hasTransaction_23 ⟨_, rfl, by first | rfl | decide⟩ (⟨by first | (exfalso; omega) | (rw [if_neg (fun q => nlt0 (by assumption) q.1)]; rfl) | (rw [if_neg (fun q => nle (by assumption) q.2)]; rfl) | (rw [if_pos ⟨nI_pos' (by omega), nI_lt hu (by omega)⟩]; rfl), rfl⟩)
    · skip
      refine j_iload_n (pc := 12) C d_Dsk_hasTransaction_12 rfl 1 rfl ?_
      refine j_bipush (pc := 13) (v := nI 12) C d_Dsk_hasTransaction_13 (by decide) ?_
      refine j_icmp_geN (pc := 15) (tgt := 22) C (by omega) (by omega) d_Dsk_hasTransaction_15 rfl (fun c15 => ?_) (fun c15 => ?_)
      · skip
        exfalso; omega
      · skip
        refine j_iconst (pc := 18) (v := nI 1) C d_Dsk_hasTransaction_18 (by decide) ?_
        refine j_goto (pc := 19) (tgt := 23) C d_Dsk_hasTransaction_19 rfl ?_
        exact hR.1 _ _ _ _ d_Dsk_hasTransaction_23 ⟨_, rfl, by first | rfl | decide⟩ (⟨by first | (exfalso; omega) | (rw [if_neg (fun q => nlt0 (by assumption) q.1)]; rfl) | (rw [if_neg (fun q => nle (by assumption) q.2)]; rfl) | (rw [if_pos ⟨nI_pos' (by omega), nI_lt hu (by omega)⟩]; rfl), rfl⟩)
abbrev rm_Dsk_forget : Room := { frames := 1, cells := 0, slots := 0, locals := 20 }
set_option maxHeartbeats 4000000 in
set_option maxRecDepth 100000 in
theorem c_Dsk_forget (l : Launch) (g : JX) (x0 tw tk r0 m0 ha tn bn w0 cnt : Nat) (blk : Bool) (pl : Int32) (kb : Nat) (z : Int32)  : j_Ct l y_Dsk_forget b_Dsk_forget 1 none rm_Dsk_forget g ([(x0, .inr (5, [.ref tw, .ref r0, .ref tk, .ref m0, .ref ha, .int (nI cnt), .int (b2 blk), .int pl, .ref tn, .ref bn, .ref w0])), (tk, .inr (3, [.ref kb, .int z]))]) [.ref x0] (fun r w => r = none ∧ w = [(x0, .inr (5, [.ref tw, .ref r0, .ref tk, .ref m0, .ref ha, .int (nI 0), .int (b2 false), .int pl, .ref tn, .ref bn, .ref w0])), (tk, .inr (3, [.ref kb, .int (nI 0)]))]) 0 0 := by
  refine j_ct (by decide) (Nat.le_of_ble_eq_true rfl) (fun κ hkl C hR hI => ?_)
  show j_V g κ 0 0 0 [(0, .ref x0)] [] ([(x0, .inr (5, [.ref tw, .ref r0, .ref tk, .ref m0, .ref ha, .int (nI cnt), .int (b2 blk), .int pl, .ref tn, .ref bn, .ref w0])), (tk, .inr (3, [.ref kb, .int z]))])
  refine j_aload_n (pc := 0) C d_Dsk_forget_0 rfl 0 rfl ?_
  refine j_get (pc := 1) C F_Dsk_26 0 rfl rfl d_Dsk_forget_1 ?_
  refine j_callV (pc := 4) (As := []) (rest := []) (wc := [(tk, .inr (3, [.ref kb, .int z]))]) (wr := [(x0, .inr (5, [.ref tw, .ref r0, .ref tk, .ref m0, .ref ha, .int (nI cnt), .int (b2 blk), .int pl, .ref tn, .ref bn, .ref w0]))]) C (c_Txt_clear (kl κ) g tk kb z) Y_Txt_clear ml_Dsk_91 im_Txt_clear sl_Txt_clear rfl ⟨by decide, by decide⟩ rfl (ci := 3) (q0 := 0) rfl rfl rfl (Nat.le_of_ble_eq_true rfl) (j_sb [1, 0] rfl rfl) rfl d_Dsk_forget_4 (fun r w1 hO => ?_)
  obtain ⟨rfl, rfl⟩ := hO
  show j_V g κ 0 0 7 [(0, .ref x0)] [] ([(tk, .inr (3, [.ref kb, .int (nI 0)])), (x0, .inr (5, [.ref tw, .ref r0, .ref tk, .ref m0, .ref ha, .int (nI cnt), .int (b2 blk), .int pl, .ref tn, .ref bn, .ref w0]))])
  refine j_aload_n (pc := 7) C d_Dsk_forget_7 rfl 0 rfl ?_
  refine j_iconst (pc := 8) (v := nI 0) C d_Dsk_forget_8 (by decide) ?_
  refine j_put (pc := 9) (ws' := [(tk, .inr (3, [.ref kb, .int (nI 0)])), (x0, .inr (5, [.ref tw, .ref r0, .ref tk, .ref m0, .ref ha, .int (nI 0), .int (b2 blk), .int pl, .ref tn, .ref bn, .ref w0]))]) C Fp_Dsk_42 1 rfl rfl (by first | rfl | decide) (Nat.le_of_ble_eq_true rfl) rfl d_Dsk_forget_9 ?_
  refine j_aload_n (pc := 12) C d_Dsk_forget_12 rfl 0 rfl ?_
  refine j_iconst (pc := 13) (v := nI 0) C d_Dsk_forget_13 (by decide) ?_
  refine j_put (pc := 14) (ws' := [(tk, .inr (3, [.ref kb, .int (nI 0)])), (x0, .inr (5, [.ref tw, .ref r0, .ref tk, .ref m0, .ref ha, .int (nI 0), .int (nI 0), .int pl, .ref tn, .ref bn, .ref w0]))]) C Fp_Dsk_46 1 rfl (by first | rfl | decide) (by first | rfl | decide) (Nat.le_of_ble_eq_true rfl) rfl d_Dsk_forget_14 ?_
  refine j_sub (ws' := [(x0, .inr (5, [.ref tw, .ref r0, .ref tk, .ref m0, .ref ha, .int (nI 0), .int (nI 0), .int pl, .ref tn, .ref bn, .ref w0])), (tk, .inr (3, [.ref kb, .int (nI 0)]))]) (j_sb [1, 0] rfl rfl) ?_
  exact hR.2.2 _ _ _ d_Dsk_forget_17 rfl (⟨rfl, rfl⟩)
abbrev rm_Dsk_put : Room := { frames := 2, cells := 0, slots := 0, locals := 45 }
set_option maxHeartbeats 4000000 in
set_option maxRecDepth 100000 in
theorem c_Dsk_put (l : Launch) (g : JX) (x0 tw tk r0 m0 ha tn bn w0 cnt : Nat) (blk : Bool) (pl : Int32) (wb n : Nat) (t : Nat → Nat) (v : Int64) (x : Int32) (hn : n ≤ 2000) : j_Ct l y_Dsk_put b_Dsk_put 4 (some .boolean) rm_Dsk_put g ([(x0, .inr (5, [.ref tw, .ref r0, .ref tk, .ref m0, .ref ha, .int (nI cnt), .int (b2 blk), .int pl, .ref tn, .ref bn, .ref w0])), (tw, .inr (3, [.ref wb, .int (nI n)])), (wb, .inl (aB g, 2000, .inl (bf t)))]) [.ref x0, .long v, .int x] (fun r w => r = some (.int (b2 (pOk n x))) ∧ w = [(x0, .inr (5, [.ref tw, .ref r0, .ref tk, .ref m0, .ref ha, .int (nI cnt), .int (b2 blk), .int pl, .ref tn, .ref bn, .ref w0])), (tw, .inr (3, [.ref wb, .int (nI (pN n x))])), (wb, .inl (aB g, 2000, .inl (bf (pT t n x (hiS v)))))]) 0 0 := by
  refine j_ct (by decide) (Nat.le_of_ble_eq_true rfl) (fun κ hkl C hR hI => ?_)
  show j_V g κ 0 0 0 [(0, .ref x0), (1, .long v), (3, .int x)] [] ([(x0, .inr (5, [.ref tw, .ref r0, .ref tk, .ref m0, .ref ha, .int (nI cnt), .int (b2 blk), .int pl, .ref tn, .ref bn, .ref w0])), (tw, .inr (3, [.ref wb, .int (nI n)])), (wb, .inl (aB g, 2000, .inl (bf t)))])
  rcases pk_ix x (n := 9) (by decide) with hx | hx | ⟨k1, hk1, rfl⟩
  · skip
    show j_V g κ 0 0 0 [(0, .ref x0), (1, .long v), (3, .int x)] [] ([(x0, .inr (5, [.ref tw, .ref r0, .ref tk, .ref m0, .ref ha, .int (nI cnt), .int (b2 blk), .int pl, .ref tn, .ref bn, .ref w0])), (tw, .inr (3, [.ref wb, .int (nI n)])), (wb, .inl (aB g, 2000, .inl (bf t)))])
    refine j_iload_n (pc := 0) C d_Dsk_put_0 rfl 2 rfl ?_
    refine j_iconst (pc := 1) (v := nI 1) C d_Dsk_put_1 (by decide) ?_
    refine j_icmp_lt (pc := 2) (tgt := 22) C d_Dsk_put_2 rfl (fun c2 => ?_) (fun c2 => ?_)
    · skip
      refine j_iconst (pc := 22) (v := nI 0) C d_Dsk_put_22 (by decide) ?_
      exact hR.1 _ _ _ _ d_Dsk_put_23 ⟨_, rfl, by first | rfl | decide⟩ (by first | (have e := pOk_neg (n := n) hx; rw [e, pN_f e, pT_f e]; exact ⟨rfl, rfl⟩) | (have e := pOk_big (n := n) hx; rw [e, pN_f e, pT_f e]; exact ⟨rfl, rfl⟩) | (have e := pOk_t (n := n) (k := k1) (by omega) (by omega) (by omega); rw [e, pN_t e (by omega), pT_t e (by omega)]; exact ⟨rfl, rfl⟩) | (have e := pOk_f (n := n) (k := k1) (by omega) (by omega); rw [e, pN_f e, pT_f e]; exact ⟨rfl, rfl⟩))
    · skip
      refine j_iload_n (pc := 5) C d_Dsk_put_5 rfl 2 rfl ?_
      refine j_bipush (pc := 6) (v := nI 8) C d_Dsk_put_6 (by decide) ?_
      refine j_icmp_gt (pc := 8) (tgt := 22) C d_Dsk_put_8 rfl (fun c8 => ?_) (fun c8 => ?_)
      · skip
        refine j_iconst (pc := 22) (v := nI 0) C d_Dsk_put_22 (by decide) ?_
        exact hR.1 _ _ _ _ d_Dsk_put_23 ⟨_, rfl, by first | rfl | decide⟩ (by first | (have e := pOk_neg (n := n) hx; rw [e, pN_f e, pT_f e]; exact ⟨rfl, rfl⟩) | (have e := pOk_big (n := n) hx; rw [e, pN_f e, pT_f e]; exact ⟨rfl, rfl⟩) | (have e := pOk_t (n := n) (k := k1) (by omega) (by omega) (by omega); rw [e, pN_t e (by omega), pT_t e (by omega)]; exact ⟨rfl, rfl⟩) | (have e := pOk_f (n := n) (k := k1) (by omega) (by omega); rw [e, pN_f e, pT_f e]; exact ⟨rfl, rfl⟩))
      · skip
        exfalso
        rw [Int32.lt_iff_toInt_lt, nI_toInt (by decide)] at c2
        rw [Int32.lt_iff_toInt_lt, nI_toInt (by decide)] at c8
        first | (rw [Int32.lt_iff_toInt_lt, Int32.toInt_zero] at hx; omega) | (rw [Int32.le_iff_toInt_le, nI_toInt (by decide)] at hx; omega)
  · skip
    show j_V g κ 0 0 0 [(0, .ref x0), (1, .long v), (3, .int x)] [] ([(x0, .inr (5, [.ref tw, .ref r0, .ref tk, .ref m0, .ref ha, .int (nI cnt), .int (b2 blk), .int pl, .ref tn, .ref bn, .ref w0])), (tw, .inr (3, [.ref wb, .int (nI n)])), (wb, .inl (aB g, 2000, .inl (bf t)))])
    refine j_iload_n (pc := 0) C d_Dsk_put_0 rfl 2 rfl ?_
    refine j_iconst (pc := 1) (v := nI 1) C d_Dsk_put_1 (by decide) ?_
    refine j_icmp_lt (pc := 2) (tgt := 22) C d_Dsk_put_2 rfl (fun c2 => ?_) (fun c2 => ?_)
    · skip
      refine j_iconst (pc := 22) (v := nI 0) C d_Dsk_put_22 (by decide) ?_
      exact hR.1 _ _ _ _ d_Dsk_put_23 ⟨_, rfl, by first | rfl | decide⟩ (by first | (have e := pOk_neg (n := n) hx; rw [e, pN_f e, pT_f e]; exact ⟨rfl, rfl⟩) | (have e := pOk_big (n := n) hx; rw [e, pN_f e, pT_f e]; exact ⟨rfl, rfl⟩) | (have e := pOk_t (n := n) (k := k1) (by omega) (by omega) (by omega); rw [e, pN_t e (by omega), pT_t e (by omega)]; exact ⟨rfl, rfl⟩) | (have e := pOk_f (n := n) (k := k1) (by omega) (by omega); rw [e, pN_f e, pT_f e]; exact ⟨rfl, rfl⟩))
    · skip
      refine j_iload_n (pc := 5) C d_Dsk_put_5 rfl 2 rfl ?_
      refine j_bipush (pc := 6) (v := nI 8) C d_Dsk_put_6 (by decide) ?_
      refine j_icmp_gt (pc := 8) (tgt := 22) C d_Dsk_put_8 rfl (fun c8 => ?_) (fun c8 => ?_)
      · skip
        refine j_iconst (pc := 22) (v := nI 0) C d_Dsk_put_22 (by decide) ?_
        exact hR.1 _ _ _ _ d_Dsk_put_23 ⟨_, rfl, by first | rfl | decide⟩ (by first | (have e := pOk_neg (n := n) hx; rw [e, pN_f e, pT_f e]; exact ⟨rfl, rfl⟩) | (have e := pOk_big (n := n) hx; rw [e, pN_f e, pT_f e]; exact ⟨rfl, rfl⟩) | (have e := pOk_t (n := n) (k := k1) (by omega) (by omega) (by omega); rw [e, pN_t e (by omega), pT_t e (by omega)]; exact ⟨rfl, rfl⟩) | (have e := pOk_f (n := n) (k := k1) (by omega) (by omega); rw [e, pN_f e, pT_f e]; exact ⟨rfl, rfl⟩))
      · skip
        exfalso
        rw [Int32.lt_iff_toInt_lt, nI_toInt (by decide)] at c2
        rw [Int32.lt_iff_toInt_lt, nI_toInt (by decide)] at c8
        first | (rw [Int32.lt_iff_toInt_lt, Int32.toInt_zero] at hx; omega) | (rw [Int32.le_iff_toInt_le, nI_toInt (by decide)] at hx; omega)
  · skip
    show j_V g κ 0 0 0 [(0, .ref x0), (1, .long v), (3, .int (nI k1))] [] ([(x0, .inr (5, [.ref tw, .ref r0, .ref tk, .ref m0, .ref ha, .int (nI cnt), .int (b2 blk), .int pl, .ref tn, .ref bn, .ref w0])), (tw, .inr (3, [.ref wb, .int (nI n)])), (wb, .inl (aB g, 2000, .inl (bf t)))])
    refine j_iload_n (pc := 0) C d_Dsk_put_0 rfl 2 rfl ?_
    refine j_iconst (pc := 1) (v := nI 1) C d_Dsk_put_1 (by decide) ?_
    refine j_icmp_ltN (pc := 2) (tgt := 22) C (by omega) (by omega) d_Dsk_put_2 rfl (fun c2 => ?_) (fun c2 => ?_)
    · skip
      refine j_iconst (pc := 22) (v := nI 0) C d_Dsk_put_22 (by decide) ?_
      exact hR.1 _ _ _ _ d_Dsk_put_23 ⟨_, rfl, by first | rfl | decide⟩ (by first | (have e := pOk_neg (n := n) hx; rw [e, pN_f e, pT_f e]; exact ⟨rfl, rfl⟩) | (have e := pOk_big (n := n) hx; rw [e, pN_f e, pT_f e]; exact ⟨rfl, rfl⟩) | (have e := pOk_t (n := n) (k := k1) (by omega) (by omega) (by omega); rw [e, pN_t e (by omega), pT_t e (by omega)]; exact ⟨rfl, rfl⟩) | (have e := pOk_f (n := n) (k := k1) (by omega) (by omega); rw [e, pN_f e, pT_f e]; exact ⟨rfl, rfl⟩))
    · skip
      refine j_iload_n (pc := 5) C d_Dsk_put_5 rfl 2 rfl ?_
      refine j_bipush (pc := 6) (v := nI 8) C d_Dsk_put_6 (by decide) ?_
      refine j_icmp_gtN (pc := 8) (tgt := 22) C (by omega) (by omega) d_Dsk_put_8 rfl (fun c8 => ?_) (fun c8 => ?_)
      · skip
        refine j_iconst (pc := 22) (v := nI 0) C d_Dsk_put_22 (by decide) ?_
        exact hR.1 _ _ _ _ d_Dsk_put_23 ⟨_, rfl, by first | rfl | decide⟩ (by first | (have e := pOk_neg (n := n) hx; rw [e, pN_f e, pT_f e]; exact ⟨rfl, rfl⟩) | (have e := pOk_big (n := n) hx; rw [e, pN_f e, pT_f e]; exact ⟨rfl, rfl⟩) | (have e := pOk_t (n := n) (k := k1) (by omega) (by omega) (by omega); rw [e, pN_t e (by omega), pT_t e (by omega)]; exact ⟨rfl, rfl⟩) | (have e := pOk_f (n := n) (k := k1) (by omega) (by omega); rw [e, pN_f e, pT_f e]; exact ⟨rfl, rfl⟩))
      · skip
        refine j_aload_n (pc := 11) C d_Dsk_put_11 rfl 0 rfl ?_
        refine j_get (pc := 12) C F_Dsk_10 0 rfl rfl d_Dsk_put_12 ?_
        refine j_iload_n (pc := 15) C d_Dsk_put_15 rfl 2 rfl ?_
        refine j_callV (pc := 16) (As := [.int (nI k1)]) (rest := []) (wc := [(tw, .inr (3, [.ref wb, .int (nI n)]))]) (wr := [(x0, .inr (5, [.ref tw, .ref r0, .ref tk, .ref m0, .ref ha, .int (nI cnt), .int (b2 blk), .int pl, .ref tn, .ref bn, .ref w0])), (wb, .inl (aB g, 2000, .inl (bf t)))]) C (c_Txt_hasRoom (kl κ) g tw wb n k1 (by omega) (by omega)) Y_Txt_hasRoom ml_Dsk_68 im_Txt_hasRoom sl_Txt_hasRoom rfl ⟨by decide, by decide⟩ rfl (ci := 3) (q0 := 0) rfl rfl rfl (Nat.le_of_ble_eq_true rfl) (j_sb [1, 0, 2] rfl rfl) rfl d_Dsk_put_16 (fun r w1 hO => ?_)
        obtain ⟨rfl, rfl⟩ := hO
        show j_V g κ 0 0 19 [(0, .ref x0), (1, .long v), (3, .int (nI k1))] [.int (if k1 ≤ 2000 - n then (1 : Int32) else 0)] ([(tw, .inr (3, [.ref wb, .int (nI n)])), (x0, .inr (5, [.ref tw, .ref r0, .ref tk, .ref m0, .ref ha, .int (nI cnt), .int (b2 blk), .int pl, .ref tn, .ref bn, .ref w0])), (wb, .inl (aB g, 2000, .inl (bf t)))])
        refine j_if_neB (pc := 19) (tgt := 24) C d_Dsk_put_19 rfl (fun c19 => ?_) (fun c19 => ?_)
        · skip
          refine j_aload_n (pc := 24) C d_Dsk_put_24 rfl 0 rfl ?_
          refine j_get (pc := 25) C F_Dsk_10 1 rfl rfl d_Dsk_put_25 ?_
          refine j_lload_n (pc := 28) C d_Dsk_put_28 rfl 1 rfl ?_
          refine j_iload_n (pc := 29) C d_Dsk_put_29 rfl 2 rfl ?_
          refine j_callV (pc := 30) (As := [.long v, .int (nI k1)]) (rest := []) (wc := [(tw, .inr (3, [.ref wb, .int (nI n)])), (wb, .inl (aB g, 2000, .inl (bf t)))]) (wr := [(x0, .inr (5, [.ref tw, .ref r0, .ref tk, .ref m0, .ref ha, .int (nI cnt), .int (b2 blk), .int pl, .ref tn, .ref bn, .ref w0]))]) C (c_Txt_addHighFirst (kl κ) g tw wb n k1 t v (by omega) (by omega)) Y_Txt_addHighFirst ml_Dsk_72 im_Txt_addHighFirst sl_Txt_addHighFirst rfl ⟨by decide, by decide⟩ rfl (ci := 3) (q0 := 0) rfl rfl rfl (Nat.le_of_ble_eq_true rfl) (j_sb [0, 2, 1] rfl rfl) rfl d_Dsk_put_30 (fun r w1 hO => ?_)
          obtain ⟨rfl, rfl⟩ := hO
          show j_V g κ 0 0 33 [(0, .ref x0), (1, .long v), (3, .int (nI k1))] [] ([(tw, .inr (3, [.ref wb, .int (nI (n + k1))])), (wb, .inl (aB g, 2000, .inl (bf (putF t n k1 (fun q => lb v (k1 - 1 - q)))))), (x0, .inr (5, [.ref tw, .ref r0, .ref tk, .ref m0, .ref ha, .int (nI cnt), .int (b2 blk), .int pl, .ref tn, .ref bn, .ref w0]))])
          refine j_iconst (pc := 33) (v := nI 1) C d_Dsk_put_33 (by decide) ?_
          refine j_sub (ws' := [(x0, .inr (5, [.ref tw, .ref r0, .ref tk, .ref m0, .ref ha, .int (nI cnt), .int (b2 blk), .int pl, .ref tn, .ref bn, .ref w0])), (tw, .inr (3, [.ref wb, .int (nI (n + k1))])), (wb, .inl (aB g, 2000, .inl (bf (putF t n k1 (fun q => lb v (k1 - 1 - q))))))]) (j_sb [2, 0, 1] rfl rfl) ?_
          exact hR.1 _ _ _ _ d_Dsk_put_34 ⟨_, rfl, by first | rfl | decide⟩ (by first | (have e := pOk_neg (n := n) hx; rw [e, pN_f e, pT_f e]; exact ⟨rfl, rfl⟩) | (have e := pOk_big (n := n) hx; rw [e, pN_f e, pT_f e]; exact ⟨rfl, rfl⟩) | (have e := pOk_t (n := n) (k := k1) (by omega) (by omega) (by omega); rw [e, pN_t e (by omega), pT_t e (by omega)]; exact ⟨rfl, rfl⟩) | (have e := pOk_f (n := n) (k := k1) (by omega) (by omega); rw [e, pN_f e, pT_f e]; exact ⟨rfl, rfl⟩))
        · skip
          refine j_iconst (pc := 22) (v := nI 0) C d_Dsk_put_22 (by decide) ?_
          refine j_sub (ws' := [(x0, .inr (5, [.ref tw, .ref r0, .ref tk, .ref m0, .ref ha, .int (nI cnt), .int (b2 blk), .int pl, .ref tn, .ref bn, .ref w0])), (tw, .inr (3, [.ref wb, .int (nI n)])), (wb, .inl (aB g, 2000, .inl (bf t)))]) (j_sb [1, 0, 2] rfl rfl) ?_
          exact hR.1 _ _ _ _ d_Dsk_put_23 ⟨_, rfl, by first | rfl | decide⟩ (by first | (have e := pOk_neg (n := n) hx; rw [e, pN_f e, pT_f e]; exact ⟨rfl, rfl⟩) | (have e := pOk_big (n := n) hx; rw [e, pN_f e, pT_f e]; exact ⟨rfl, rfl⟩) | (have e := pOk_t (n := n) (k := k1) (by omega) (by omega) (by omega); rw [e, pN_t e (by omega), pT_t e (by omega)]; exact ⟨rfl, rfl⟩) | (have e := pOk_f (n := n) (k := k1) (by omega) (by omega); rw [e, pN_f e, pT_f e]; exact ⟨rfl, rfl⟩))
abbrev rm_Dsk_low : Room := { frames := 2, cells := 0, slots := 0, locals := 45 }
set_option maxHeartbeats 4000000 in
set_option maxRecDepth 100000 in
theorem c_Dsk_low (l : Launch) (g : JX) (x0 tw tk r0 m0 ha tn bn w0 cnt : Nat) (blk : Bool) (pl : Int32) (wb n : Nat) (t : Nat → Nat) (v : Int64) (x : Int32) (hn : n ≤ 2000) : j_Ct l y_Dsk_low b_Dsk_low 4 (some .boolean) rm_Dsk_low g ([(x0, .inr (5, [.ref tw, .ref r0, .ref tk, .ref m0, .ref ha, .int (nI cnt), .int (b2 blk), .int pl, .ref tn, .ref bn, .ref w0])), (tw, .inr (3, [.ref wb, .int (nI n)])), (wb, .inl (aB g, 2000, .inl (bf t)))]) [.ref x0, .long v, .int x] (fun r w => r = some (.int (b2 (pOk n x))) ∧ w = [(x0, .inr (5, [.ref tw, .ref r0, .ref tk, .ref m0, .ref ha, .int (nI cnt), .int (b2 blk), .int pl, .ref tn, .ref bn, .ref w0])), (tw, .inr (3, [.ref wb, .int (nI (pN n x))])), (wb, .inl (aB g, 2000, .inl (bf (pT t n x (loS v)))))]) 0 0 := by
  refine j_ct (by decide) (Nat.le_of_ble_eq_true rfl) (fun κ hkl C hR hI => ?_)
  show j_V g κ 0 0 0 [(0, .ref x0), (1, .long v), (3, .int x)] [] ([(x0, .inr (5, [.ref tw, .ref r0, .ref tk, .ref m0, .ref ha, .int (nI cnt), .int (b2 blk), .int pl, .ref tn, .ref bn, .ref w0])), (tw, .inr (3, [.ref wb, .int (nI n)])), (wb, .inl (aB g, 2000, .inl (bf t)))])
  rcases pk_ix x (n := 9) (by decide) with hx | hx | ⟨k1, hk1, rfl⟩
  · skip
    show j_V g κ 0 0 0 [(0, .ref x0), (1, .long v), (3, .int x)] [] ([(x0, .inr (5, [.ref tw, .ref r0, .ref tk, .ref m0, .ref ha, .int (nI cnt), .int (b2 blk), .int pl, .ref tn, .ref bn, .ref w0])), (tw, .inr (3, [.ref wb, .int (nI n)])), (wb, .inl (aB g, 2000, .inl (bf t)))])
    refine j_iload_n (pc := 0) C d_Dsk_low_0 rfl 2 rfl ?_
    refine j_iconst (pc := 1) (v := nI 1) C d_Dsk_low_1 (by decide) ?_
    refine j_icmp_lt (pc := 2) (tgt := 22) C d_Dsk_low_2 rfl (fun c2 => ?_) (fun c2 => ?_)
    · skip
      refine j_iconst (pc := 22) (v := nI 0) C d_Dsk_low_22 (by decide) ?_
      exact hR.1 _ _ _ _ d_Dsk_low_23 ⟨_, rfl, by first | rfl | decide⟩ (by first | (have e := pOk_neg (n := n) hx; rw [e, pN_f e, pT_f e]; exact ⟨rfl, rfl⟩) | (have e := pOk_big (n := n) hx; rw [e, pN_f e, pT_f e]; exact ⟨rfl, rfl⟩) | (have e := pOk_t (n := n) (k := k1) (by omega) (by omega) (by omega); rw [e, pN_t e (by omega), pT_t e (by omega)]; exact ⟨rfl, rfl⟩) | (have e := pOk_f (n := n) (k := k1) (by omega) (by omega); rw [e, pN_f e, pT_f e]; exact ⟨rfl, rfl⟩))
    · skip
      refine j_iload_n (pc := 5) C d_Dsk_low_5 rfl 2 rfl ?_
      refine j_bipush (pc := 6) (v := nI 8) C d_Dsk_low_6 (by decide) ?_
      refine j_icmp_gt (pc := 8) (tgt := 22) C d_Dsk_low_8 rfl (fun c8 => ?_) (fun c8 => ?_)
      · skip
        refine j_iconst (pc := 22) (v := nI 0) C d_Dsk_low_22 (by decide) ?_
        exact hR.1 _ _ _ _ d_Dsk_low_23 ⟨_, rfl, by first | rfl | decide⟩ (by first | (have e := pOk_neg (n := n) hx; rw [e, pN_f e, pT_f e]; exact ⟨rfl, rfl⟩) | (have e := pOk_big (n := n) hx; rw [e, pN_f e, pT_f e]; exact ⟨rfl, rfl⟩) | (have e := pOk_t (n := n) (k := k1) (by omega) (by omega) (by omega); rw [e, pN_t e (by omega), pT_t e (by omega)]; exact ⟨rfl, rfl⟩) | (have e := pOk_f (n := n) (k := k1) (by omega) (by omega); rw [e, pN_f e, pT_f e]; exact ⟨rfl, rfl⟩))
      · skip
        exfalso
        rw [Int32.lt_iff_toInt_lt, nI_toInt (by decide)] at c2
        rw [Int32.lt_iff_toInt_lt, nI_toInt (by decide)] at c8
        first | (rw [Int32.lt_iff_toInt_lt, Int32.toInt_zero] at hx; omega) | (rw [Int32.le_iff_toInt_le, nI_toInt (by decide)] at hx; omega)
  · skip
    show j_V g κ 0 0 0 [(0, .ref x0), (1, .long v), (3, .int x)] [] ([(x0, .inr (5, [.ref tw, .ref r0, .ref tk, .ref m0, .ref ha, .int (nI cnt), .int (b2 blk), .int pl, .ref tn, .ref bn, .ref w0])), (tw, .inr (3, [.ref wb, .int (nI n)])), (wb, .inl (aB g, 2000, .inl (bf t)))])
    refine j_iload_n (pc := 0) C d_Dsk_low_0 rfl 2 rfl ?_
    refine j_iconst (pc := 1) (v := nI 1) C d_Dsk_low_1 (by decide) ?_
    refine j_icmp_lt (pc := 2) (tgt := 22) C d_Dsk_low_2 rfl (fun c2 => ?_) (fun c2 => ?_)
    · skip
      refine j_iconst (pc := 22) (v := nI 0) C d_Dsk_low_22 (by decide) ?_
      exact hR.1 _ _ _ _ d_Dsk_low_23 ⟨_, rfl, by first | rfl | decide⟩ (by first | (have e := pOk_neg (n := n) hx; rw [e, pN_f e, pT_f e]; exact ⟨rfl, rfl⟩) | (have e := pOk_big (n := n) hx; rw [e, pN_f e, pT_f e]; exact ⟨rfl, rfl⟩) | (have e := pOk_t (n := n) (k := k1) (by omega) (by omega) (by omega); rw [e, pN_t e (by omega), pT_t e (by omega)]; exact ⟨rfl, rfl⟩) | (have e := pOk_f (n := n) (k := k1) (by omega) (by omega); rw [e, pN_f e, pT_f e]; exact ⟨rfl, rfl⟩))
    · skip
      refine j_iload_n (pc := 5) C d_Dsk_low_5 rfl 2 rfl ?_
      refine j_bipush (pc := 6) (v := nI 8) C d_Dsk_low_6 (by decide) ?_
      refine j_icmp_gt (pc := 8) (tgt := 22) C d_Dsk_low_8 rfl (fun c8 => ?_) (fun c8 => ?_)
      · skip
        refine j_iconst (pc := 22) (v := nI 0) C d_Dsk_low_22 (by decide) ?_
        exact hR.1 _ _ _ _ d_Dsk_low_23 ⟨_, rfl, by first | rfl | decide⟩ (by first | (have e := pOk_neg (n := n) hx; rw [e, pN_f e, pT_f e]; exact ⟨rfl, rfl⟩) | (have e := pOk_big (n := n) hx; rw [e, pN_f e, pT_f e]; exact ⟨rfl, rfl⟩) | (have e := pOk_t (n := n) (k := k1) (by omega) (by omega) (by omega); rw [e, pN_t e (by omega), pT_t e (by omega)]; exact ⟨rfl, rfl⟩) | (have e := pOk_f (n := n) (k := k1) (by omega) (by omega); rw [e, pN_f e, pT_f e]; exact ⟨rfl, rfl⟩))
      · skip
        exfalso
        rw [Int32.lt_iff_toInt_lt, nI_toInt (by decide)] at c2
        rw [Int32.lt_iff_toInt_lt, nI_toInt (by decide)] at c8
        first | (rw [Int32.lt_iff_toInt_lt, Int32.toInt_zero] at hx; omega) | (rw [Int32.le_iff_toInt_le, nI_toInt (by decide)] at hx; omega)
  · skip
    show j_V g κ 0 0 0 [(0, .ref x0), (1, .long v), (3, .int (nI k1))] [] ([(x0, .inr (5, [.ref tw, .ref r0, .ref tk, .ref m0, .ref ha, .int (nI cnt), .int (b2 blk), .int pl, .ref tn, .ref bn, .ref w0])), (tw, .inr (3, [.ref wb, .int (nI n)])), (wb, .inl (aB g, 2000, .inl (bf t)))])
    refine j_iload_n (pc := 0) C d_Dsk_low_0 rfl 2 rfl ?_
    refine j_iconst (pc := 1) (v := nI 1) C d_Dsk_low_1 (by decide) ?_
    refine j_icmp_ltN (pc := 2) (tgt := 22) C (by omega) (by omega) d_Dsk_low_2 rfl (fun c2 => ?_) (fun c2 => ?_)
    · skip
      refine j_iconst (pc := 22) (v := nI 0) C d_Dsk_low_22 (by decide) ?_
      exact hR.1 _ _ _ _ d_Dsk_low_23 ⟨_, rfl, by first | rfl | decide⟩ (by first | (have e := pOk_neg (n := n) hx; rw [e, pN_f e, pT_f e]; exact ⟨rfl, rfl⟩) | (have e := pOk_big (n := n) hx; rw [e, pN_f e, pT_f e]; exact ⟨rfl, rfl⟩) | (have e := pOk_t (n := n) (k := k1) (by omega) (by omega) (by omega); rw [e, pN_t e (by omega), pT_t e (by omega)]; exact ⟨rfl, rfl⟩) | (have e := pOk_f (n := n) (k := k1) (by omega) (by omega); rw [e, pN_f e, pT_f e]; exact ⟨rfl, rfl⟩))
    · skip
      refine j_iload_n (pc := 5) C d_Dsk_low_5 rfl 2 rfl ?_
      refine j_bipush (pc := 6) (v := nI 8) C d_Dsk_low_6 (by decide) ?_
      refine j_icmp_gtN (pc := 8) (tgt := 22) C (by omega) (by omega) d_Dsk_low_8 rfl (fun c8 => ?_) (fun c8 => ?_)
      · skip
        refine j_iconst (pc := 22) (v := nI 0) C d_Dsk_low_22 (by decide) ?_
        exact hR.1 _ _ _ _ d_Dsk_low_23 ⟨_, rfl, by first | rfl | decide⟩ (by first | (have e := pOk_neg (n := n) hx; rw [e, pN_f e, pT_f e]; exact ⟨rfl, rfl⟩) | (have e := pOk_big (n := n) hx; rw [e, pN_f e, pT_f e]; exact ⟨rfl, rfl⟩) | (have e := pOk_t (n := n) (k := k1) (by omega) (by omega) (by omega); rw [e, pN_t e (by omega), pT_t e (by omega)]; exact ⟨rfl, rfl⟩) | (have e := pOk_f (n := n) (k := k1) (by omega) (by omega); rw [e, pN_f e, pT_f e]; exact ⟨rfl, rfl⟩))
      · skip
        refine j_aload_n (pc := 11) C d_Dsk_low_11 rfl 0 rfl ?_
        refine j_get (pc := 12) C F_Dsk_10 0 rfl rfl d_Dsk_low_12 ?_
        refine j_iload_n (pc := 15) C d_Dsk_low_15 rfl 2 rfl ?_
        refine j_callV (pc := 16) (As := [.int (nI k1)]) (rest := []) (wc := [(tw, .inr (3, [.ref wb, .int (nI n)]))]) (wr := [(x0, .inr (5, [.ref tw, .ref r0, .ref tk, .ref m0, .ref ha, .int (nI cnt), .int (b2 blk), .int pl, .ref tn, .ref bn, .ref w0])), (wb, .inl (aB g, 2000, .inl (bf t)))]) C (c_Txt_hasRoom (kl κ) g tw wb n k1 (by omega) (by omega)) Y_Txt_hasRoom ml_Dsk_68 im_Txt_hasRoom sl_Txt_hasRoom rfl ⟨by decide, by decide⟩ rfl (ci := 3) (q0 := 0) rfl rfl rfl (Nat.le_of_ble_eq_true rfl) (j_sb [1, 0, 2] rfl rfl) rfl d_Dsk_low_16 (fun r w1 hO => ?_)
        obtain ⟨rfl, rfl⟩ := hO
        show j_V g κ 0 0 19 [(0, .ref x0), (1, .long v), (3, .int (nI k1))] [.int (if k1 ≤ 2000 - n then (1 : Int32) else 0)] ([(tw, .inr (3, [.ref wb, .int (nI n)])), (x0, .inr (5, [.ref tw, .ref r0, .ref tk, .ref m0, .ref ha, .int (nI cnt), .int (b2 blk), .int pl, .ref tn, .ref bn, .ref w0])), (wb, .inl (aB g, 2000, .inl (bf t)))])
        refine j_if_neB (pc := 19) (tgt := 24) C d_Dsk_low_19 rfl (fun c19 => ?_) (fun c19 => ?_)
        · skip
          refine j_aload_n (pc := 24) C d_Dsk_low_24 rfl 0 rfl ?_
          refine j_get (pc := 25) C F_Dsk_10 1 rfl rfl d_Dsk_low_25 ?_
          refine j_lload_n (pc := 28) C d_Dsk_low_28 rfl 1 rfl ?_
          refine j_iload_n (pc := 29) C d_Dsk_low_29 rfl 2 rfl ?_
          refine j_callV (pc := 30) (As := [.long v, .int (nI k1)]) (rest := []) (wc := [(tw, .inr (3, [.ref wb, .int (nI n)])), (wb, .inl (aB g, 2000, .inl (bf t)))]) (wr := [(x0, .inr (5, [.ref tw, .ref r0, .ref tk, .ref m0, .ref ha, .int (nI cnt), .int (b2 blk), .int pl, .ref tn, .ref bn, .ref w0]))]) C (c_Txt_addLowFirst (kl κ) g tw wb n k1 t v (by omega) (by omega)) Y_Txt_addLowFirst ml_Dsk_76 im_Txt_addLowFirst sl_Txt_addLowFirst rfl ⟨by decide, by decide⟩ rfl (ci := 3) (q0 := 0) rfl rfl rfl (Nat.le_of_ble_eq_true rfl) (j_sb [0, 2, 1] rfl rfl) rfl d_Dsk_low_30 (fun r w1 hO => ?_)
          obtain ⟨rfl, rfl⟩ := hO
          show j_V g κ 0 0 33 [(0, .ref x0), (1, .long v), (3, .int (nI k1))] [] ([(tw, .inr (3, [.ref wb, .int (nI (n + k1))])), (wb, .inl (aB g, 2000, .inl (bf (putF t n k1 (fun q => lb v q))))), (x0, .inr (5, [.ref tw, .ref r0, .ref tk, .ref m0, .ref ha, .int (nI cnt), .int (b2 blk), .int pl, .ref tn, .ref bn, .ref w0]))])
          refine j_iconst (pc := 33) (v := nI 1) C d_Dsk_low_33 (by decide) ?_
          refine j_sub (ws' := [(x0, .inr (5, [.ref tw, .ref r0, .ref tk, .ref m0, .ref ha, .int (nI cnt), .int (b2 blk), .int pl, .ref tn, .ref bn, .ref w0])), (tw, .inr (3, [.ref wb, .int (nI (n + k1))])), (wb, .inl (aB g, 2000, .inl (bf (putF t n k1 (fun q => lb v q)))))]) (j_sb [2, 0, 1] rfl rfl) ?_
          exact hR.1 _ _ _ _ d_Dsk_low_34 ⟨_, rfl, by first | rfl | decide⟩ (by first | (have e := pOk_neg (n := n) hx; rw [e, pN_f e, pT_f e]; exact ⟨rfl, rfl⟩) | (have e := pOk_big (n := n) hx; rw [e, pN_f e, pT_f e]; exact ⟨rfl, rfl⟩) | (have e := pOk_t (n := n) (k := k1) (by omega) (by omega) (by omega); rw [e, pN_t e (by omega), pT_t e (by omega)]; exact ⟨rfl, rfl⟩) | (have e := pOk_f (n := n) (k := k1) (by omega) (by omega); rw [e, pN_f e, pT_f e]; exact ⟨rfl, rfl⟩))
        · skip
          refine j_iconst (pc := 22) (v := nI 0) C d_Dsk_low_22 (by decide) ?_
          refine j_sub (ws' := [(x0, .inr (5, [.ref tw, .ref r0, .ref tk, .ref m0, .ref ha, .int (nI cnt), .int (b2 blk), .int pl, .ref tn, .ref bn, .ref w0])), (tw, .inr (3, [.ref wb, .int (nI n)])), (wb, .inl (aB g, 2000, .inl (bf t)))]) (j_sb [1, 0, 2] rfl rfl) ?_
          exact hR.1 _ _ _ _ d_Dsk_low_23 ⟨_, rfl, by first | rfl | decide⟩ (by first | (have e := pOk_neg (n := n) hx; rw [e, pN_f e, pT_f e]; exact ⟨rfl, rfl⟩) | (have e := pOk_big (n := n) hx; rw [e, pN_f e, pT_f e]; exact ⟨rfl, rfl⟩) | (have e := pOk_t (n := n) (k := k1) (by omega) (by omega) (by omega); rw [e, pN_t e (by omega), pT_t e (by omega)]; exact ⟨rfl, rfl⟩) | (have e := pOk_f (n := n) (k := k1) (by omega) (by omega); rw [e, pN_f e, pT_f e]; exact ⟨rfl, rfl⟩))
abbrev rm_Dsk_compact : Room := { frames := 2, cells := 0, slots := 0, locals := 45 }
set_option maxHeartbeats 4000000 in
set_option maxRecDepth 100000 in
theorem c_Dsk_compact (l : Launch) (g : JX) (x0 tw tk r0 m0 ha tn bn w0 cnt : Nat) (blk : Bool) (pl : Int32) (wb n V : Nat) (t : Nat → Nat) (hn : n ≤ 2000) (hV : V < 2 ^ 64) : j_Ct l y_Dsk_compact b_Dsk_compact 4 (some .boolean) rm_Dsk_compact g ([(x0, .inr (5, [.ref tw, .ref r0, .ref tk, .ref m0, .ref ha, .int (nI cnt), .int (b2 blk), .int pl, .ref tn, .ref bn, .ref w0])), (tw, .inr (3, [.ref wb, .int (nI n)])), (wb, .inl (aB g, 2000, .inl (bf t)))]) [.ref x0, .long (lN V)] (fun r w => r = some (.int (b2 (cOk n V))) ∧ w = [(x0, .inr (5, [.ref tw, .ref r0, .ref tk, .ref m0, .ref ha, .int (nI cnt), .int (b2 blk), .int pl, .ref tn, .ref bn, .ref w0])), (tw, .inr (3, [.ref wb, .int (nI (cN n V))])), (wb, .inl (aB g, 2000, .inl (bf (cT t n V))))]) 0 0 := by
  refine j_ct (by decide) (Nat.le_of_ble_eq_true rfl) (fun κ hkl C hR hI => ?_)
  show j_V g κ 0 0 0 [(0, .ref x0), (1, .long (lN V))] [] ([(x0, .inr (5, [.ref tw, .ref r0, .ref tk, .ref m0, .ref ha, .int (nI cnt), .int (b2 blk), .int pl, .ref tn, .ref bn, .ref w0])), (tw, .inr (3, [.ref wb, .int (nI n)])), (wb, .inl (aB g, 2000, .inl (bf t)))])
  refine j_lload_n (pc := 0) C d_Dsk_compact_0 rfl 1 rfl ?_
  refine j_callS (pc := 1) (As := [.long (lN V)]) (rest := []) (wc := []) (wr := [(x0, .inr (5, [.ref tw, .ref r0, .ref tk, .ref m0, .ref ha, .int (nI cnt), .int (b2 blk), .int pl, .ref tn, .ref bn, .ref w0])), (tw, .inr (3, [.ref wb, .int (nI n)])), (wb, .inl (aB g, 2000, .inl (bf t)))]) C (c_Dsk_widthOfSize (kl κ) g V hV) Y_Dsk_widthOfSize ml_Dsk_79 sta_Dsk_widthOfSize rfl ⟨by decide, by decide⟩ rfl (Nat.le_of_ble_eq_true rfl) (j_sb [0, 1, 2] rfl rfl) rfl d_Dsk_compact_1 (fun r w1 hO => ?_)
  obtain ⟨rfl, rfl⟩ := hO
  show j_V g κ 0 0 4 [(0, .ref x0), (1, .long (lN V))] [.int (nI (wFit V))] ([(x0, .inr (5, [.ref tw, .ref r0, .ref tk, .ref m0, .ref ha, .int (nI cnt), .int (b2 blk), .int pl, .ref tn, .ref bn, .ref w0])), (tw, .inr (3, [.ref wb, .int (nI n)])), (wb, .inl (aB g, 2000, .inl (bf t)))])
  have hw8 := wFit_v V
  refine j_istore_n (pc := 4) (lv' := [(3, .int (nI (wFit V))), (0, .ref x0), (1, .long (lN V))]) C d_Dsk_compact_4 rfl (by decide) rfl ?_
  refine j_aload_n (pc := 5) C d_Dsk_compact_5 rfl 1 rfl ?_
  refine j_get (pc := 6) C F_Dsk_10 0 rfl rfl d_Dsk_compact_6 ?_
  refine j_iconst (pc := 9) (v := nI 1) C d_Dsk_compact_9 (by decide) ?_
  refine j_iload_n (pc := 10) C d_Dsk_compact_10 rfl 0 rfl ?_
  refine j_iaddN (pc := 11) C d_Dsk_compact_11 ?_
  refine j_callV (pc := 12) (As := [.int (nI (1 + (wFit V)))]) (rest := []) (wc := [(tw, .inr (3, [.ref wb, .int (nI n)]))]) (wr := [(x0, .inr (5, [.ref tw, .ref r0, .ref tk, .ref m0, .ref ha, .int (nI cnt), .int (b2 blk), .int pl, .ref tn, .ref bn, .ref w0])), (wb, .inl (aB g, 2000, .inl (bf t)))]) C (c_Txt_hasRoom (kl κ) g tw wb n (1 + (wFit V)) (by omega) (by omega)) Y_Txt_hasRoom ml_Dsk_68 im_Txt_hasRoom sl_Txt_hasRoom rfl ⟨by decide, by decide⟩ rfl (ci := 3) (q0 := 0) rfl rfl rfl (Nat.le_of_ble_eq_true rfl) (j_sb [1, 0, 2] rfl rfl) rfl d_Dsk_compact_12 (fun r w1 hO => ?_)
  obtain ⟨rfl, rfl⟩ := hO
  show j_V g κ 0 0 15 [(3, .int (nI (wFit V))), (0, .ref x0), (1, .long (lN V))] [.int (if 1 + (wFit V) ≤ 2000 - n then (1 : Int32) else 0)] ([(tw, .inr (3, [.ref wb, .int (nI n)])), (x0, .inr (5, [.ref tw, .ref r0, .ref tk, .ref m0, .ref ha, .int (nI cnt), .int (b2 blk), .int pl, .ref tn, .ref bn, .ref w0])), (wb, .inl (aB g, 2000, .inl (bf t)))])
  refine j_if_neB (pc := 15) (tgt := 20) C d_Dsk_compact_15 rfl (fun c15 => ?_) (fun c15 => ?_)
  · skip
    refine j_iload_n (pc := 20) C d_Dsk_compact_20 rfl 0 rfl ?_
    refine j_if_leN (pc := 21) (tgt := 49) C (by omega) d_Dsk_compact_21 rfl (fun c21 => ?_) (fun c21 => ?_)
    · skip
      refine j_aload_n (pc := 49) C d_Dsk_compact_49 rfl 1 rfl ?_
      refine j_get (pc := 50) C F_Dsk_10 1 rfl rfl d_Dsk_compact_50 ?_
      refine j_lload_n (pc := 53) C d_Dsk_compact_53 rfl 2 rfl ?_
      refine j_iconst (pc := 54) (v := nI 1) C d_Dsk_compact_54 (by decide) ?_
      refine j_callV (pc := 55) (As := [.long (lN V), .int (nI 1)]) (rest := []) (wc := [(tw, .inr (3, [.ref wb, .int (nI n)])), (wb, .inl (aB g, 2000, .inl (bf t)))]) (wr := [(x0, .inr (5, [.ref tw, .ref r0, .ref tk, .ref m0, .ref ha, .int (nI cnt), .int (b2 blk), .int pl, .ref tn, .ref bn, .ref w0]))]) C (c_Txt_addLowFirst (kl κ) g tw wb n 1 t (lN V) (by omega) (by omega)) Y_Txt_addLowFirst ml_Dsk_76 im_Txt_addLowFirst sl_Txt_addLowFirst rfl ⟨by decide, by decide⟩ rfl (ci := 3) (q0 := 0) rfl rfl rfl (Nat.le_of_ble_eq_true rfl) (j_sb [0, 2, 1] rfl rfl) rfl d_Dsk_compact_55 (fun r w1 hO => ?_)
      obtain ⟨rfl, rfl⟩ := hO
      show j_V g κ 0 0 58 [(3, .int (nI (wFit V))), (0, .ref x0), (1, .long (lN V))] [] ([(tw, .inr (3, [.ref wb, .int (nI (n + 1))])), (wb, .inl (aB g, 2000, .inl (bf (putF t n 1 (fun q => lb (lN V) q))))), (x0, .inr (5, [.ref tw, .ref r0, .ref tk, .ref m0, .ref ha, .int (nI cnt), .int (b2 blk), .int pl, .ref tn, .ref bn, .ref w0]))])
      refine j_iconst (pc := 58) (v := nI 1) C d_Dsk_compact_58 (by decide) ?_
      refine j_sub (ws' := [(x0, .inr (5, [.ref tw, .ref r0, .ref tk, .ref m0, .ref ha, .int (nI cnt), .int (b2 blk), .int pl, .ref tn, .ref bn, .ref w0])), (tw, .inr (3, [.ref wb, .int (nI (n + 1))])), (wb, .inl (aB g, 2000, .inl (bf (putF t n 1 (fun q => lb (lN V) q)))))]) (j_sb [2, 0, 1] rfl rfl) ?_
      exact hR.1 _ _ _ _ d_Dsk_compact_59 ⟨_, rfl, by first | rfl | decide⟩ (by unfold cN cT; rw [show cOk n V = true from decide_eq_true (by omega), if_pos rfl, if_pos rfl]; exact ⟨rfl, by rw [cT_1 hV c21, c21]⟩)
    · skip
      refine j_aload_n (pc := 24) C d_Dsk_compact_24 rfl 1 rfl ?_
      refine j_get (pc := 25) C F_Dsk_10 1 rfl rfl d_Dsk_compact_25 ?_
      refine j_iload_n (pc := 28) C d_Dsk_compact_28 rfl 0 rfl ?_
      refine j_callS (pc := 29) (As := [.int (nI (wFit V))]) (rest := [.ref tw]) (wc := []) (wr := [(tw, .inr (3, [.ref wb, .int (nI n)])), (x0, .inr (5, [.ref tw, .ref r0, .ref tk, .ref m0, .ref ha, .int (nI cnt), .int (b2 blk), .int pl, .ref tn, .ref bn, .ref w0])), (wb, .inl (aB g, 2000, .inl (bf t)))]) C (c_Dsk_markOfWidth (kl κ) g (wFit V) (by omega)) Y_Dsk_markOfWidth ml_Dsk_83 sta_Dsk_markOfWidth rfl ⟨by decide, by decide⟩ rfl (Nat.le_of_ble_eq_true rfl) (j_sb [0, 1, 2] rfl rfl) rfl d_Dsk_compact_29 (fun r w1 hO => ?_)
      obtain ⟨rfl, rfl⟩ := hO
      show j_V g κ 0 0 32 [(3, .int (nI (wFit V))), (0, .ref x0), (1, .long (lN V))] [.int (nI (mk (wFit V))), .ref tw] ([(tw, .inr (3, [.ref wb, .int (nI n)])), (x0, .inr (5, [.ref tw, .ref r0, .ref tk, .ref m0, .ref ha, .int (nI cnt), .int (b2 blk), .int pl, .ref tn, .ref bn, .ref w0])), (wb, .inl (aB g, 2000, .inl (bf t)))])
      have hm256 : mk (wFit V) < 256 := by unfold mk; split <;> (try split) <;> decide
      refine j_i2l (pc := 32) (v := lN (mk (wFit V))) C d_Dsk_compact_32 (nI_l (by omega)) ?_
      refine j_iconst (pc := 33) (v := nI 1) C d_Dsk_compact_33 (by decide) ?_
      refine j_callV (pc := 34) (As := [.long (lN (mk (wFit V))), .int (nI 1)]) (rest := []) (wc := [(tw, .inr (3, [.ref wb, .int (nI n)])), (wb, .inl (aB g, 2000, .inl (bf t)))]) (wr := [(x0, .inr (5, [.ref tw, .ref r0, .ref tk, .ref m0, .ref ha, .int (nI cnt), .int (b2 blk), .int pl, .ref tn, .ref bn, .ref w0]))]) C (c_Txt_addLowFirst (kl κ) g tw wb n 1 t (lN (mk (wFit V))) (by omega) (by omega)) Y_Txt_addLowFirst ml_Dsk_76 im_Txt_addLowFirst sl_Txt_addLowFirst rfl ⟨by decide, by decide⟩ rfl (ci := 3) (q0 := 0) rfl rfl rfl (Nat.le_of_ble_eq_true rfl) (j_sb [0, 2, 1] rfl rfl) rfl d_Dsk_compact_34 (fun r w1 hO => ?_)
      obtain ⟨rfl, rfl⟩ := hO
      show j_V g κ 0 0 37 [(3, .int (nI (wFit V))), (0, .ref x0), (1, .long (lN V))] [] ([(tw, .inr (3, [.ref wb, .int (nI (n + 1))])), (wb, .inl (aB g, 2000, .inl (bf (putF t n 1 (fun q => lb (lN (mk (wFit V))) q))))), (x0, .inr (5, [.ref tw, .ref r0, .ref tk, .ref m0, .ref ha, .int (nI cnt), .int (b2 blk), .int pl, .ref tn, .ref bn, .ref w0]))])
      refine j_aload_n (pc := 37) C d_Dsk_compact_37 rfl 1 rfl ?_
      refine j_get (pc := 38) C F_Dsk_10 2 rfl rfl d_Dsk_compact_38 ?_
      refine j_lload_n (pc := 41) C d_Dsk_compact_41 rfl 2 rfl ?_
      refine j_iload_n (pc := 42) C d_Dsk_compact_42 rfl 0 rfl ?_
      refine j_callV (pc := 43) (As := [.long (lN V), .int (nI (wFit V))]) (rest := []) (wc := [(tw, .inr (3, [.ref wb, .int (nI (n + 1))])), (wb, .inl (aB g, 2000, .inl (bf (putF t n 1 (fun q => lb (lN (mk (wFit V))) q)))))]) (wr := [(x0, .inr (5, [.ref tw, .ref r0, .ref tk, .ref m0, .ref ha, .int (nI cnt), .int (b2 blk), .int pl, .ref tn, .ref bn, .ref w0]))]) C (c_Txt_addLowFirst (kl κ) g tw wb (n + 1) (wFit V) (putF t n 1 (fun q => lb (lN (mk (wFit V))) q)) (lN V) (by omega) (by omega)) Y_Txt_addLowFirst ml_Dsk_76 im_Txt_addLowFirst sl_Txt_addLowFirst rfl ⟨by decide, by decide⟩ rfl (ci := 3) (q0 := 0) rfl rfl rfl (Nat.le_of_ble_eq_true rfl) (j_sb [0, 1, 2] rfl rfl) rfl d_Dsk_compact_43 (fun r w1 hO => ?_)
      obtain ⟨rfl, rfl⟩ := hO
      show j_V g κ 0 0 46 [(3, .int (nI (wFit V))), (0, .ref x0), (1, .long (lN V))] [] ([(tw, .inr (3, [.ref wb, .int (nI (n + 1 + wFit V))])), (wb, .inl (aB g, 2000, .inl (bf (putF (putF t n 1 (fun q => lb (lN (mk (wFit V))) q)) (n + 1) (wFit V) (fun q => lb (lN V) q))))), (x0, .inr (5, [.ref tw, .ref r0, .ref tk, .ref m0, .ref ha, .int (nI cnt), .int (b2 blk), .int pl, .ref tn, .ref bn, .ref w0]))])
      refine j_goto (pc := 46) (tgt := 58) C d_Dsk_compact_46 rfl ?_
      refine j_iconst (pc := 58) (v := nI 1) C d_Dsk_compact_58 (by decide) ?_
      refine j_sub (ws' := [(x0, .inr (5, [.ref tw, .ref r0, .ref tk, .ref m0, .ref ha, .int (nI cnt), .int (b2 blk), .int pl, .ref tn, .ref bn, .ref w0])), (tw, .inr (3, [.ref wb, .int (nI (n + 1 + wFit V))])), (wb, .inl (aB g, 2000, .inl (bf (putF (putF t n 1 (fun q => lb (lN (mk (wFit V))) q)) (n + 1) (wFit V) (fun q => lb (lN V) q)))))]) (j_sb [2, 0, 1] rfl rfl) ?_
      exact hR.1 _ _ _ _ d_Dsk_compact_59 ⟨_, rfl, by first | rfl | decide⟩ (by unfold cN cT; rw [show cOk n V = true from decide_eq_true (by omega), if_pos rfl, if_pos rfl]; exact ⟨rfl, by rw [cT_2 hV (by omega), Nat.add_assoc]⟩)
  · skip
    refine j_iconst (pc := 18) (v := nI 0) C d_Dsk_compact_18 (by decide) ?_
    refine j_sub (ws' := [(x0, .inr (5, [.ref tw, .ref r0, .ref tk, .ref m0, .ref ha, .int (nI cnt), .int (b2 blk), .int pl, .ref tn, .ref bn, .ref w0])), (tw, .inr (3, [.ref wb, .int (nI n)])), (wb, .inl (aB g, 2000, .inl (bf t)))]) (j_sb [1, 0, 2] rfl rfl) ?_
    exact hR.1 _ _ _ _ d_Dsk_compact_19 ⟨_, rfl, by first | rfl | decide⟩ (by unfold cN cT; rw [show cOk n V = false from decide_eq_false (by omega)]; exact ⟨rfl, rfl⟩)
abbrev rm_Dsk_head : Room := { frames := 1, cells := 0, slots := 0, locals := 25 }
set_option maxHeartbeats 4000000 in
set_option maxRecDepth 100000 in
theorem c_Dsk_head (l : Launch) (g : JX) (x0 tw tk r0 m0 ha tn bn w0 cnt : Nat) (blk : Bool) (pl : Int32) (kb n : Nat) (t : Nat → Nat) (x : Int32) (hn : n ≤ 2000) (hT : ∀ j, t j < 256) (hb : blk = true → 80 ≤ n) : j_Ct l y_Dsk_head b_Dsk_head 2 (some .long) rm_Dsk_head g ([(x0, .inr (5, [.ref tw, .ref r0, .ref tk, .ref m0, .ref ha, .int (nI cnt), .int (if blk = true then (1 : Int32) else 0), .int pl, .ref tn, .ref bn, .ref w0])), (tk, .inr (3, [.ref kb, .int (nI n)])), (kb, .inl (aB g, 2000, .inl (bf t)))]) [.ref x0, .int x] (fun r w => r = some (.long (hdR blk t x)) ∧ w = [(x0, .inr (5, [.ref tw, .ref r0, .ref tk, .ref m0, .ref ha, .int (nI cnt), .int (b2 blk), .int pl, .ref tn, .ref bn, .ref w0])), (tk, .inr (3, [.ref kb, .int (nI n)])), (kb, .inl (aB g, 2000, .inl (bf t)))]) 0 0 := by
  refine j_ct (by decide) (Nat.le_of_ble_eq_true rfl) (fun κ hkl C hR hI => ?_)
  show j_V g κ 0 0 0 [(0, .ref x0), (1, .int x)] [] ([(x0, .inr (5, [.ref tw, .ref r0, .ref tk, .ref m0, .ref ha, .int (nI cnt), .int (if blk = true then (1 : Int32) else 0), .int pl, .ref tn, .ref bn, .ref w0])), (tk, .inr (3, [.ref kb, .int (nI n)])), (kb, .inl (aB g, 2000, .inl (bf t)))])
  rcases pk_ix x (n := 4) (by decide) with hw | hw | ⟨q, hq, rfl⟩
  · skip
    show j_V g κ 0 0 0 [(0, .ref x0), (1, .int x)] [] ([(x0, .inr (5, [.ref tw, .ref r0, .ref tk, .ref m0, .ref ha, .int (nI cnt), .int (if blk = true then (1 : Int32) else 0), .int pl, .ref tn, .ref bn, .ref w0])), (tk, .inr (3, [.ref kb, .int (nI n)])), (kb, .inl (aB g, 2000, .inl (bf t)))])
    refine j_aload_n (pc := 0) C d_Dsk_head_0 rfl 0 rfl ?_
    refine j_get (pc := 1) C F_Dsk_46 0 rfl rfl d_Dsk_head_1 ?_
    refine j_if_neB (pc := 4) (tgt := 11) C d_Dsk_head_4 rfl (fun c4 => ?_) (fun c4 => ?_)
    · skip
      have hb8 := hb c4
      refine j_iload_n (pc := 11) C d_Dsk_head_11 rfl 1 rfl ?_
      refine j_tableOut (pc := 12) (tgt := 87) C d_Dsk_head_12 (Or.inl (ts_neg hw)) (by decide) ?_
      refine j_ldc2 (pc := 87) C k_Dsk_132 d_Dsk_head_87 ?_
      exact hR.2.1 _ _ _ _ d_Dsk_head_90 rfl (⟨by unfold hdR; first | (rw [if_neg c4]) | (rw [if_pos c4, sel_neg hw]) | (rw [if_pos c4, sel_big hw]) | (rw [if_pos c4]; rfl), rfl⟩)
    · skip
      refine j_ldc2 (pc := 7) C k_Dsk_132 d_Dsk_head_7 ?_
      exact hR.2.1 _ _ _ _ d_Dsk_head_10 rfl (⟨by unfold hdR; first | (rw [if_neg c4]) | (rw [if_pos c4, sel_neg hw]) | (rw [if_pos c4, sel_big hw]) | (rw [if_pos c4]; rfl), rfl⟩)
  · skip
    show j_V g κ 0 0 0 [(0, .ref x0), (1, .int x)] [] ([(x0, .inr (5, [.ref tw, .ref r0, .ref tk, .ref m0, .ref ha, .int (nI cnt), .int (if blk = true then (1 : Int32) else 0), .int pl, .ref tn, .ref bn, .ref w0])), (tk, .inr (3, [.ref kb, .int (nI n)])), (kb, .inl (aB g, 2000, .inl (bf t)))])
    refine j_aload_n (pc := 0) C d_Dsk_head_0 rfl 0 rfl ?_
    refine j_get (pc := 1) C F_Dsk_46 0 rfl rfl d_Dsk_head_1 ?_
    refine j_if_neB (pc := 4) (tgt := 11) C d_Dsk_head_4 rfl (fun c4 => ?_) (fun c4 => ?_)
    · skip
      have hb8 := hb c4
      refine j_iload_n (pc := 11) C d_Dsk_head_11 rfl 1 rfl ?_
      refine j_tableOut (pc := 12) (tgt := 87) C d_Dsk_head_12 (Or.inr (ts_big (k := 3) (by decide) hw)) (by decide) ?_
      refine j_ldc2 (pc := 87) C k_Dsk_132 d_Dsk_head_87 ?_
      exact hR.2.1 _ _ _ _ d_Dsk_head_90 rfl (⟨by unfold hdR; first | (rw [if_neg c4]) | (rw [if_pos c4, sel_neg hw]) | (rw [if_pos c4, sel_big hw]) | (rw [if_pos c4]; rfl), rfl⟩)
    · skip
      refine j_ldc2 (pc := 7) C k_Dsk_132 d_Dsk_head_7 ?_
      exact hR.2.1 _ _ _ _ d_Dsk_head_10 rfl (⟨by unfold hdR; first | (rw [if_neg c4]) | (rw [if_pos c4, sel_neg hw]) | (rw [if_pos c4, sel_big hw]) | (rw [if_pos c4]; rfl), rfl⟩)
  · rcases (by omega : q = 0 ∨ q = 1 ∨ q = 2 ∨ q = 3) with rfl | rfl | rfl | rfl
    · skip
      show j_V g κ 0 0 0 [(0, .ref x0), (1, .int (nI 0))] [] ([(x0, .inr (5, [.ref tw, .ref r0, .ref tk, .ref m0, .ref ha, .int (nI cnt), .int (if blk = true then (1 : Int32) else 0), .int pl, .ref tn, .ref bn, .ref w0])), (tk, .inr (3, [.ref kb, .int (nI n)])), (kb, .inl (aB g, 2000, .inl (bf t)))])
      refine j_aload_n (pc := 0) C d_Dsk_head_0 rfl 0 rfl ?_
      refine j_get (pc := 1) C F_Dsk_46 0 rfl rfl d_Dsk_head_1 ?_
      refine j_if_neB (pc := 4) (tgt := 11) C d_Dsk_head_4 rfl (fun c4 => ?_) (fun c4 => ?_)
      · skip
        have hb8 := hb c4
        refine j_iload_n (pc := 11) C d_Dsk_head_11 rfl 1 rfl ?_
        refine j_tableIn (pc := 12) (tgt := 44) C d_Dsk_head_12 (by decide) (by decide) rfl (by decide) ?_
        refine j_aload_n (pc := 44) C d_Dsk_head_44 rfl 0 rfl ?_
        refine j_get (pc := 45) C F_Dsk_26 0 rfl rfl d_Dsk_head_45 ?_
        refine j_iconst (pc := 48) (v := nI 0) C d_Dsk_head_48 (by decide) ?_
        refine j_iconst (pc := 49) (v := nI 4) C d_Dsk_head_49 (by decide) ?_
        refine j_callV (pc := 50) (As := [.int (nI 0), .int (nI 4)]) (rest := []) (wc := [(tk, .inr (3, [.ref kb, .int (nI n)])), (kb, .inl (aB g, 2000, .inl (bf t)))]) (wr := [(x0, .inr (5, [.ref tw, .ref r0, .ref tk, .ref m0, .ref ha, .int (nI cnt), .int (if blk = true then (1 : Int32) else 0), .int pl, .ref tn, .ref bn, .ref w0]))]) C (c_Txt_lowFirst (kl κ) g tk kb n 0 4 t (by omega) hT (by omega) (by omega)) Y_Txt_lowFirst ml_Dsk_134 im_Txt_lowFirst sl_Txt_lowFirst rfl ⟨by decide, by decide⟩ rfl (ci := 3) (q0 := 0) rfl rfl rfl (Nat.le_of_ble_eq_true rfl) (j_sb [1, 2, 0] rfl rfl) rfl d_Dsk_head_50 (fun r w1 hO => ?_)
        obtain ⟨rfl, rfl⟩ := hO
        show j_V g κ 0 0 53 [(0, .ref x0), (1, .int (nI 0))] [.long (lN (lf t 0 4))] ([(tk, .inr (3, [.ref kb, .int (nI n)])), (kb, .inl (aB g, 2000, .inl (bf t))), (x0, .inr (5, [.ref tw, .ref r0, .ref tk, .ref m0, .ref ha, .int (nI cnt), .int (if blk = true then (1 : Int32) else 0), .int pl, .ref tn, .ref bn, .ref w0]))])
        refine j_sub (ws' := [(x0, .inr (5, [.ref tw, .ref r0, .ref tk, .ref m0, .ref ha, .int (nI cnt), .int (if blk = true then (1 : Int32) else 0), .int pl, .ref tn, .ref bn, .ref w0])), (tk, .inr (3, [.ref kb, .int (nI n)])), (kb, .inl (aB g, 2000, .inl (bf t)))]) (j_sb [2, 0, 1] rfl rfl) ?_
        exact hR.2.1 _ _ _ _ d_Dsk_head_53 rfl (⟨by unfold hdR; first | (rw [if_neg c4]) | (rw [if_pos c4, sel_neg hw]) | (rw [if_pos c4, sel_big hw]) | (rw [if_pos c4]; rfl), rfl⟩)
      · skip
        refine j_ldc2 (pc := 7) C k_Dsk_132 d_Dsk_head_7 ?_
        exact hR.2.1 _ _ _ _ d_Dsk_head_10 rfl (⟨by unfold hdR; first | (rw [if_neg c4]) | (rw [if_pos c4, sel_neg hw]) | (rw [if_pos c4, sel_big hw]) | (rw [if_pos c4]; rfl), rfl⟩)
    · skip
      show j_V g κ 0 0 0 [(0, .ref x0), (1, .int (nI 1))] [] ([(x0, .inr (5, [.ref tw, .ref r0, .ref tk, .ref m0, .ref ha, .int (nI cnt), .int (if blk = true then (1 : Int32) else 0), .int pl, .ref tn, .ref bn, .ref w0])), (tk, .inr (3, [.ref kb, .int (nI n)])), (kb, .inl (aB g, 2000, .inl (bf t)))])
      refine j_aload_n (pc := 0) C d_Dsk_head_0 rfl 0 rfl ?_
      refine j_get (pc := 1) C F_Dsk_46 0 rfl rfl d_Dsk_head_1 ?_
      refine j_if_neB (pc := 4) (tgt := 11) C d_Dsk_head_4 rfl (fun c4 => ?_) (fun c4 => ?_)
      · skip
        have hb8 := hb c4
        refine j_iload_n (pc := 11) C d_Dsk_head_11 rfl 1 rfl ?_
        refine j_tableIn (pc := 12) (tgt := 54) C d_Dsk_head_12 (by decide) (by decide) rfl (by decide) ?_
        refine j_aload_n (pc := 54) C d_Dsk_head_54 rfl 0 rfl ?_
        refine j_get (pc := 55) C F_Dsk_26 0 rfl rfl d_Dsk_head_55 ?_
        refine j_bipush (pc := 58) (v := nI 68) C d_Dsk_head_58 (by decide) ?_
        refine j_iconst (pc := 60) (v := nI 4) C d_Dsk_head_60 (by decide) ?_
        refine j_callV (pc := 61) (As := [.int (nI 68), .int (nI 4)]) (rest := []) (wc := [(tk, .inr (3, [.ref kb, .int (nI n)])), (kb, .inl (aB g, 2000, .inl (bf t)))]) (wr := [(x0, .inr (5, [.ref tw, .ref r0, .ref tk, .ref m0, .ref ha, .int (nI cnt), .int (if blk = true then (1 : Int32) else 0), .int pl, .ref tn, .ref bn, .ref w0]))]) C (c_Txt_lowFirst (kl κ) g tk kb n 68 4 t (by omega) hT (by omega) (by omega)) Y_Txt_lowFirst ml_Dsk_134 im_Txt_lowFirst sl_Txt_lowFirst rfl ⟨by decide, by decide⟩ rfl (ci := 3) (q0 := 0) rfl rfl rfl (Nat.le_of_ble_eq_true rfl) (j_sb [1, 2, 0] rfl rfl) rfl d_Dsk_head_61 (fun r w1 hO => ?_)
        obtain ⟨rfl, rfl⟩ := hO
        show j_V g κ 0 0 64 [(0, .ref x0), (1, .int (nI 1))] [.long (lN (lf t 68 4))] ([(tk, .inr (3, [.ref kb, .int (nI n)])), (kb, .inl (aB g, 2000, .inl (bf t))), (x0, .inr (5, [.ref tw, .ref r0, .ref tk, .ref m0, .ref ha, .int (nI cnt), .int (if blk = true then (1 : Int32) else 0), .int pl, .ref tn, .ref bn, .ref w0]))])
        refine j_sub (ws' := [(x0, .inr (5, [.ref tw, .ref r0, .ref tk, .ref m0, .ref ha, .int (nI cnt), .int (if blk = true then (1 : Int32) else 0), .int pl, .ref tn, .ref bn, .ref w0])), (tk, .inr (3, [.ref kb, .int (nI n)])), (kb, .inl (aB g, 2000, .inl (bf t)))]) (j_sb [2, 0, 1] rfl rfl) ?_
        exact hR.2.1 _ _ _ _ d_Dsk_head_64 rfl (⟨by unfold hdR; first | (rw [if_neg c4]) | (rw [if_pos c4, sel_neg hw]) | (rw [if_pos c4, sel_big hw]) | (rw [if_pos c4]; rfl), rfl⟩)
      · skip
        refine j_ldc2 (pc := 7) C k_Dsk_132 d_Dsk_head_7 ?_
        exact hR.2.1 _ _ _ _ d_Dsk_head_10 rfl (⟨by unfold hdR; first | (rw [if_neg c4]) | (rw [if_pos c4, sel_neg hw]) | (rw [if_pos c4, sel_big hw]) | (rw [if_pos c4]; rfl), rfl⟩)
    · skip
      show j_V g κ 0 0 0 [(0, .ref x0), (1, .int (nI 2))] [] ([(x0, .inr (5, [.ref tw, .ref r0, .ref tk, .ref m0, .ref ha, .int (nI cnt), .int (if blk = true then (1 : Int32) else 0), .int pl, .ref tn, .ref bn, .ref w0])), (tk, .inr (3, [.ref kb, .int (nI n)])), (kb, .inl (aB g, 2000, .inl (bf t)))])
      refine j_aload_n (pc := 0) C d_Dsk_head_0 rfl 0 rfl ?_
      refine j_get (pc := 1) C F_Dsk_46 0 rfl rfl d_Dsk_head_1 ?_
      refine j_if_neB (pc := 4) (tgt := 11) C d_Dsk_head_4 rfl (fun c4 => ?_) (fun c4 => ?_)
      · skip
        have hb8 := hb c4
        refine j_iload_n (pc := 11) C d_Dsk_head_11 rfl 1 rfl ?_
        refine j_tableIn (pc := 12) (tgt := 65) C d_Dsk_head_12 (by decide) (by decide) rfl (by decide) ?_
        refine j_aload_n (pc := 65) C d_Dsk_head_65 rfl 0 rfl ?_
        refine j_get (pc := 66) C F_Dsk_26 0 rfl rfl d_Dsk_head_66 ?_
        refine j_bipush (pc := 69) (v := nI 72) C d_Dsk_head_69 (by decide) ?_
        refine j_iconst (pc := 71) (v := nI 4) C d_Dsk_head_71 (by decide) ?_
        refine j_callV (pc := 72) (As := [.int (nI 72), .int (nI 4)]) (rest := []) (wc := [(tk, .inr (3, [.ref kb, .int (nI n)])), (kb, .inl (aB g, 2000, .inl (bf t)))]) (wr := [(x0, .inr (5, [.ref tw, .ref r0, .ref tk, .ref m0, .ref ha, .int (nI cnt), .int (if blk = true then (1 : Int32) else 0), .int pl, .ref tn, .ref bn, .ref w0]))]) C (c_Txt_lowFirst (kl κ) g tk kb n 72 4 t (by omega) hT (by omega) (by omega)) Y_Txt_lowFirst ml_Dsk_134 im_Txt_lowFirst sl_Txt_lowFirst rfl ⟨by decide, by decide⟩ rfl (ci := 3) (q0 := 0) rfl rfl rfl (Nat.le_of_ble_eq_true rfl) (j_sb [1, 2, 0] rfl rfl) rfl d_Dsk_head_72 (fun r w1 hO => ?_)
        obtain ⟨rfl, rfl⟩ := hO
        show j_V g κ 0 0 75 [(0, .ref x0), (1, .int (nI 2))] [.long (lN (lf t 72 4))] ([(tk, .inr (3, [.ref kb, .int (nI n)])), (kb, .inl (aB g, 2000, .inl (bf t))), (x0, .inr (5, [.ref tw, .ref r0, .ref tk, .ref m0, .ref ha, .int (nI cnt), .int (if blk = true then (1 : Int32) else 0), .int pl, .ref tn, .ref bn, .ref w0]))])
        refine j_sub (ws' := [(x0, .inr (5, [.ref tw, .ref r0, .ref tk, .ref m0, .ref ha, .int (nI cnt), .int (if blk = true then (1 : Int32) else 0), .int pl, .ref tn, .ref bn, .ref w0])), (tk, .inr (3, [.ref kb, .int (nI n)])), (kb, .inl (aB g, 2000, .inl (bf t)))]) (j_sb [2, 0, 1] rfl rfl) ?_
        exact hR.2.1 _ _ _ _ d_Dsk_head_75 rfl (⟨by unfold hdR; first | (rw [if_neg c4]) | (rw [if_pos c4, sel_neg hw]) | (rw [if_pos c4, sel_big hw]) | (rw [if_pos c4]; rfl), rfl⟩)
      · skip
        refine j_ldc2 (pc := 7) C k_Dsk_132 d_Dsk_head_7 ?_
        exact hR.2.1 _ _ _ _ d_Dsk_head_10 rfl (⟨by unfold hdR; first | (rw [if_neg c4]) | (rw [if_pos c4, sel_neg hw]) | (rw [if_pos c4, sel_big hw]) | (rw [if_pos c4]; rfl), rfl⟩)
    · skip
      show j_V g κ 0 0 0 [(0, .ref x0), (1, .int (nI 3))] [] ([(x0, .inr (5, [.ref tw, .ref r0, .ref tk, .ref m0, .ref ha, .int (nI cnt), .int (if blk = true then (1 : Int32) else 0), .int pl, .ref tn, .ref bn, .ref w0])), (tk, .inr (3, [.ref kb, .int (nI n)])), (kb, .inl (aB g, 2000, .inl (bf t)))])
      refine j_aload_n (pc := 0) C d_Dsk_head_0 rfl 0 rfl ?_
      refine j_get (pc := 1) C F_Dsk_46 0 rfl rfl d_Dsk_head_1 ?_
      refine j_if_neB (pc := 4) (tgt := 11) C d_Dsk_head_4 rfl (fun c4 => ?_) (fun c4 => ?_)
      · skip
        have hb8 := hb c4
        refine j_iload_n (pc := 11) C d_Dsk_head_11 rfl 1 rfl ?_
        refine j_tableIn (pc := 12) (tgt := 76) C d_Dsk_head_12 (by decide) (by decide) rfl (by decide) ?_
        refine j_aload_n (pc := 76) C d_Dsk_head_76 rfl 0 rfl ?_
        refine j_get (pc := 77) C F_Dsk_26 0 rfl rfl d_Dsk_head_77 ?_
        refine j_bipush (pc := 80) (v := nI 76) C d_Dsk_head_80 (by decide) ?_
        refine j_iconst (pc := 82) (v := nI 4) C d_Dsk_head_82 (by decide) ?_
        refine j_callV (pc := 83) (As := [.int (nI 76), .int (nI 4)]) (rest := []) (wc := [(tk, .inr (3, [.ref kb, .int (nI n)])), (kb, .inl (aB g, 2000, .inl (bf t)))]) (wr := [(x0, .inr (5, [.ref tw, .ref r0, .ref tk, .ref m0, .ref ha, .int (nI cnt), .int (if blk = true then (1 : Int32) else 0), .int pl, .ref tn, .ref bn, .ref w0]))]) C (c_Txt_lowFirst (kl κ) g tk kb n 76 4 t (by omega) hT (by omega) (by omega)) Y_Txt_lowFirst ml_Dsk_134 im_Txt_lowFirst sl_Txt_lowFirst rfl ⟨by decide, by decide⟩ rfl (ci := 3) (q0 := 0) rfl rfl rfl (Nat.le_of_ble_eq_true rfl) (j_sb [1, 2, 0] rfl rfl) rfl d_Dsk_head_83 (fun r w1 hO => ?_)
        obtain ⟨rfl, rfl⟩ := hO
        show j_V g κ 0 0 86 [(0, .ref x0), (1, .int (nI 3))] [.long (lN (lf t 76 4))] ([(tk, .inr (3, [.ref kb, .int (nI n)])), (kb, .inl (aB g, 2000, .inl (bf t))), (x0, .inr (5, [.ref tw, .ref r0, .ref tk, .ref m0, .ref ha, .int (nI cnt), .int (if blk = true then (1 : Int32) else 0), .int pl, .ref tn, .ref bn, .ref w0]))])
        refine j_sub (ws' := [(x0, .inr (5, [.ref tw, .ref r0, .ref tk, .ref m0, .ref ha, .int (nI cnt), .int (if blk = true then (1 : Int32) else 0), .int pl, .ref tn, .ref bn, .ref w0])), (tk, .inr (3, [.ref kb, .int (nI n)])), (kb, .inl (aB g, 2000, .inl (bf t)))]) (j_sb [2, 0, 1] rfl rfl) ?_
        exact hR.2.1 _ _ _ _ d_Dsk_head_86 rfl (⟨by unfold hdR; first | (rw [if_neg c4]) | (rw [if_pos c4, sel_neg hw]) | (rw [if_pos c4, sel_big hw]) | (rw [if_pos c4]; rfl), rfl⟩)
      · skip
        refine j_ldc2 (pc := 7) C k_Dsk_132 d_Dsk_head_7 ?_
        exact hR.2.1 _ _ _ _ d_Dsk_head_10 rfl (⟨by unfold hdR; first | (rw [if_neg c4]) | (rw [if_pos c4, sel_neg hw]) | (rw [if_pos c4, sel_big hw]) | (rw [if_pos c4]; rfl), rfl⟩)
