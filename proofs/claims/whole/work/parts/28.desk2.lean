abbrev rm_Dsk_look : Room := { frames := 1, cells := 0, slots := 0, locals := 25 }
set_option maxHeartbeats 4000000 in
set_option maxRecDepth 100000 in
theorem c_Dsk_look (l : Launch) (g : JX) (x0 tw tk r0 m0 ha tn bn w0 cnt : Nat) (blk : Bool) (pl : Int32) (kb n : Nat) (xa : Nat → Nat) (xb : Nat → Nat → Nat) (t : Nat → Nat) (s2 : RS) (y : Nat → Nat → Int32) (f : Nat → Nat → Nat → Int32) (tt x : Int32) (hn : n ≤ 2000) (hT : ∀ j, t j < 256) (hc : cnt ≤ 12) (hA : TxAll t n s2 cnt y f) (hE : 0 < cnt → ∃ e0, itN (rTx t n) cnt s2 = .inl e0) : j_Ct l y_Dsk_look b_Dsk_look 4 (some .long) rm_Dsk_look g ([(x0, .inr (5, [.ref tw, .ref r0, .ref tk, .ref m0, .ref ha, .int (nI cnt), .int (b2 blk), .int pl, .ref tn, .ref bn, .ref w0])), (tk, .inr (3, [.ref kb, .int (nI n)])), (kb, .inl (aB g, 2000, .inl (bf t))), (ha, .inl (aQ g, 12, .inr (.inr (.inr (.inr (fun j => some (xa j)))))))] ++ txs g xa xb y f) [.ref x0, .int tt, .int x] (fun r w => r = some (.long (lookR t n s2 cnt tt x)) ∧ w = [(x0, .inr (5, [.ref tw, .ref r0, .ref tk, .ref m0, .ref ha, .int (nI cnt), .int (b2 blk), .int pl, .ref tn, .ref bn, .ref w0])), (tk, .inr (3, [.ref kb, .int (nI n)])), (kb, .inl (aB g, 2000, .inl (bf t))), (ha, .inl (aQ g, 12, .inr (.inr (.inr (.inr (fun j => some (xa j)))))))] ++ txs g xa xb y f) 0 0 := by
  refine j_ct (by decide) (Nat.le_of_ble_eq_true rfl) (fun κ hkl C hR hI => ?_)
  show j_V g κ 0 0 0 [(0, .ref x0), (1, .int tt), (2, .int x)] [] ([(x0, .inr (5, [.ref tw, .ref r0, .ref tk, .ref m0, .ref ha, .int (nI cnt), .int (b2 blk), .int pl, .ref tn, .ref bn, .ref w0])), (tk, .inr (3, [.ref kb, .int (nI n)])), (kb, .inl (aB g, 2000, .inl (bf t))), (ha, .inl (aQ g, 12, .inr (.inr (.inr (.inr (fun j => some (xa j)))))))] ++ txs g xa xb y f)
  rcases pk_ix tt (n := cnt) (by omega) with hu | hu | ⟨u, hu, rfl⟩
  · skip
    show j_V g κ 0 0 0 [(0, .ref x0), (1, .int tt), (2, .int x)] [] ([(x0, .inr (5, [.ref tw, .ref r0, .ref tk, .ref m0, .ref ha, .int (nI cnt), .int (b2 blk), .int pl, .ref tn, .ref bn, .ref w0])), (tk, .inr (3, [.ref kb, .int (nI n)])), (kb, .inl (aB g, 2000, .inl (bf t))), (ha, .inl (aQ g, 12, .inr (.inr (.inr (.inr (fun j => some (xa j)))))))] ++ txs g xa xb y f)
    refine j_aload_n (pc := 0) C d_Dsk_look_0 rfl 0 rfl ?_
    refine j_iload_n (pc := 1) C d_Dsk_look_1 rfl 1 rfl ?_
    refine j_callV (pc := 2) (As := [.int tt]) (rest := []) (wc := [(x0, .inr (5, [.ref tw, .ref r0, .ref tk, .ref m0, .ref ha, .int (nI cnt), .int (b2 blk), .int pl, .ref tn, .ref bn, .ref w0]))]) (wr := [(tk, .inr (3, [.ref kb, .int (nI n)])), (kb, .inl (aB g, 2000, .inl (bf t))), (ha, .inl (aQ g, 12, .inr (.inr (.inr (.inr (fun j => some (xa j)))))))] ++ txs g xa xb y f) C (c_Dsk_hasTransaction (kl κ) g x0 tw tk r0 m0 ha tn bn w0 cnt blk pl tt (by omega)) Y_Dsk_hasTransaction ml_Dsk_138 im_Dsk_hasTransaction sl_Dsk_hasTransaction rfl ⟨by decide, by decide⟩ rfl (ci := 5) (q0 := 0) rfl rfl rfl (Nat.le_of_ble_eq_true rfl) (by exact j_Sb.app (a := [(x0, .inr (5, [.ref tw, .ref r0, .ref tk, .ref m0, .ref ha, .int (nI cnt), .int (b2 blk), .int pl, .ref tn, .ref bn, .ref w0])), (tk, .inr (3, [.ref kb, .int (nI n)])), (kb, .inl (aB g, 2000, .inl (bf t))), (ha, .inl (aQ g, 12, .inr (.inr (.inr (.inr (fun j => some (xa j)))))))]) (b := [(x0, .inr (5, [.ref tw, .ref r0, .ref tk, .ref m0, .ref ha, .int (nI cnt), .int (b2 blk), .int pl, .ref tn, .ref bn, .ref w0])), (tk, .inr (3, [.ref kb, .int (nI n)])), (kb, .inl (aB g, 2000, .inl (bf t))), (ha, .inl (aQ g, 12, .inr (.inr (.inr (.inr (fun j => some (xa j)))))))]) (j_sb [0, 1, 2, 3] rfl rfl) (txs g xa xb y f)) rfl d_Dsk_look_2 (fun r w1 hO => ?_)
    obtain ⟨rfl, rfl⟩ := hO
    show j_V g κ 0 0 5 [(0, .ref x0), (1, .int tt), (2, .int x)] [.int (if 0 ≤ tt ∧ tt < nI cnt then (1 : Int32) else 0)] ([(x0, .inr (5, [.ref tw, .ref r0, .ref tk, .ref m0, .ref ha, .int (nI cnt), .int (b2 blk), .int pl, .ref tn, .ref bn, .ref w0])), (tk, .inr (3, [.ref kb, .int (nI n)])), (kb, .inl (aB g, 2000, .inl (bf t))), (ha, .inl (aQ g, 12, .inr (.inr (.inr (.inr (fun j => some (xa j)))))))] ++ txs g xa xb y f)
    refine j_if_neB (pc := 5) (tgt := 12) C d_Dsk_look_5 rfl (fun c5 => ?_) (fun c5 => ?_)
    · skip
      first | exact absurd c5.1 (nlt0 hu) | exact absurd c5.2 (nle hu)
    · skip
      refine j_ldc2 (pc := 8) C k_Dsk_132 d_Dsk_look_8 ?_
      exact hR.2.1 _ _ _ _ d_Dsk_look_11 rfl (⟨by first | rw [lookR_neg hu] | rw [lookR_big hu] | (rw [lookR_in hu (by omega)]; unfold lookV; first | rw [sel_neg hq] | rw [sel_big hq] | (rw [he, hb]; rfl)), rfl⟩)
  · skip
    show j_V g κ 0 0 0 [(0, .ref x0), (1, .int tt), (2, .int x)] [] ([(x0, .inr (5, [.ref tw, .ref r0, .ref tk, .ref m0, .ref ha, .int (nI cnt), .int (b2 blk), .int pl, .ref tn, .ref bn, .ref w0])), (tk, .inr (3, [.ref kb, .int (nI n)])), (kb, .inl (aB g, 2000, .inl (bf t))), (ha, .inl (aQ g, 12, .inr (.inr (.inr (.inr (fun j => some (xa j)))))))] ++ txs g xa xb y f)
    refine j_aload_n (pc := 0) C d_Dsk_look_0 rfl 0 rfl ?_
    refine j_iload_n (pc := 1) C d_Dsk_look_1 rfl 1 rfl ?_
    refine j_callV (pc := 2) (As := [.int tt]) (rest := []) (wc := [(x0, .inr (5, [.ref tw, .ref r0, .ref tk, .ref m0, .ref ha, .int (nI cnt), .int (b2 blk), .int pl, .ref tn, .ref bn, .ref w0]))]) (wr := [(tk, .inr (3, [.ref kb, .int (nI n)])), (kb, .inl (aB g, 2000, .inl (bf t))), (ha, .inl (aQ g, 12, .inr (.inr (.inr (.inr (fun j => some (xa j)))))))] ++ txs g xa xb y f) C (c_Dsk_hasTransaction (kl κ) g x0 tw tk r0 m0 ha tn bn w0 cnt blk pl tt (by omega)) Y_Dsk_hasTransaction ml_Dsk_138 im_Dsk_hasTransaction sl_Dsk_hasTransaction rfl ⟨by decide, by decide⟩ rfl (ci := 5) (q0 := 0) rfl rfl rfl (Nat.le_of_ble_eq_true rfl) (by exact j_Sb.app (a := [(x0, .inr (5, [.ref tw, .ref r0, .ref tk, .ref m0, .ref ha, .int (nI cnt), .int (b2 blk), .int pl, .ref tn, .ref bn, .ref w0])), (tk, .inr (3, [.ref kb, .int (nI n)])), (kb, .inl (aB g, 2000, .inl (bf t))), (ha, .inl (aQ g, 12, .inr (.inr (.inr (.inr (fun j => some (xa j)))))))]) (b := [(x0, .inr (5, [.ref tw, .ref r0, .ref tk, .ref m0, .ref ha, .int (nI cnt), .int (b2 blk), .int pl, .ref tn, .ref bn, .ref w0])), (tk, .inr (3, [.ref kb, .int (nI n)])), (kb, .inl (aB g, 2000, .inl (bf t))), (ha, .inl (aQ g, 12, .inr (.inr (.inr (.inr (fun j => some (xa j)))))))]) (j_sb [0, 1, 2, 3] rfl rfl) (txs g xa xb y f)) rfl d_Dsk_look_2 (fun r w1 hO => ?_)
    obtain ⟨rfl, rfl⟩ := hO
    show j_V g κ 0 0 5 [(0, .ref x0), (1, .int tt), (2, .int x)] [.int (if 0 ≤ tt ∧ tt < nI cnt then (1 : Int32) else 0)] ([(x0, .inr (5, [.ref tw, .ref r0, .ref tk, .ref m0, .ref ha, .int (nI cnt), .int (b2 blk), .int pl, .ref tn, .ref bn, .ref w0])), (tk, .inr (3, [.ref kb, .int (nI n)])), (kb, .inl (aB g, 2000, .inl (bf t))), (ha, .inl (aQ g, 12, .inr (.inr (.inr (.inr (fun j => some (xa j)))))))] ++ txs g xa xb y f)
    refine j_if_neB (pc := 5) (tgt := 12) C d_Dsk_look_5 rfl (fun c5 => ?_) (fun c5 => ?_)
    · skip
      first | exact absurd c5.1 (nlt0 hu) | exact absurd c5.2 (nle hu)
    · skip
      refine j_ldc2 (pc := 8) C k_Dsk_132 d_Dsk_look_8 ?_
      exact hR.2.1 _ _ _ _ d_Dsk_look_11 rfl (⟨by first | rw [lookR_neg hu] | rw [lookR_big hu] | (rw [lookR_in hu (by omega)]; unfold lookV; first | rw [sel_neg hq] | rw [sel_big hq] | (rw [he, hb]; rfl)), rfl⟩)
  · skip
    obtain ⟨e0, hE0⟩ := hE (by omega)
    obtain ⟨b, e, hb, he, hbe, hen, he4⟩ := tx_st hE0 hu
    obtain ⟨h0, h1, h2, h3, hHi, hHo⟩ := hA u hu e he
    have hz8 : (xZ t n (itN (rTx t n) u s2)).1 ≤ 8 := rSize_le
    have hy8 : (xY t n (itN (rTx t n) u s2)).1 ≤ 8 := rSize_le
    rcases pk_ix x (n := 6) (by decide) with hq | hq | ⟨q, hq, rfl⟩
    · skip
      show j_V g κ 0 0 0 [(0, .ref x0), (1, .int (nI u)), (2, .int x)] [] ([(x0, .inr (5, [.ref tw, .ref r0, .ref tk, .ref m0, .ref ha, .int (nI cnt), .int (b2 blk), .int pl, .ref tn, .ref bn, .ref w0])), (tk, .inr (3, [.ref kb, .int (nI n)])), (kb, .inl (aB g, 2000, .inl (bf t))), (ha, .inl (aQ g, 12, .inr (.inr (.inr (.inr (fun j => some (xa j)))))))] ++ txs g xa xb y f)
      refine j_aload_n (pc := 0) C d_Dsk_look_0 rfl 0 rfl ?_
      refine j_iload_n (pc := 1) C d_Dsk_look_1 rfl 1 rfl ?_
      refine j_callV (pc := 2) (As := [.int (nI u)]) (rest := []) (wc := [(x0, .inr (5, [.ref tw, .ref r0, .ref tk, .ref m0, .ref ha, .int (nI cnt), .int (b2 blk), .int pl, .ref tn, .ref bn, .ref w0]))]) (wr := [(tk, .inr (3, [.ref kb, .int (nI n)])), (kb, .inl (aB g, 2000, .inl (bf t))), (ha, .inl (aQ g, 12, .inr (.inr (.inr (.inr (fun j => some (xa j)))))))] ++ txs g xa xb y f) C (c_Dsk_hasTransaction (kl κ) g x0 tw tk r0 m0 ha tn bn w0 cnt blk pl (nI u) (by omega)) Y_Dsk_hasTransaction ml_Dsk_138 im_Dsk_hasTransaction sl_Dsk_hasTransaction rfl ⟨by decide, by decide⟩ rfl (ci := 5) (q0 := 0) rfl rfl rfl (Nat.le_of_ble_eq_true rfl) (by exact j_Sb.app (a := [(x0, .inr (5, [.ref tw, .ref r0, .ref tk, .ref m0, .ref ha, .int (nI cnt), .int (b2 blk), .int pl, .ref tn, .ref bn, .ref w0])), (tk, .inr (3, [.ref kb, .int (nI n)])), (kb, .inl (aB g, 2000, .inl (bf t))), (ha, .inl (aQ g, 12, .inr (.inr (.inr (.inr (fun j => some (xa j)))))))]) (b := [(x0, .inr (5, [.ref tw, .ref r0, .ref tk, .ref m0, .ref ha, .int (nI cnt), .int (b2 blk), .int pl, .ref tn, .ref bn, .ref w0])), (tk, .inr (3, [.ref kb, .int (nI n)])), (kb, .inl (aB g, 2000, .inl (bf t))), (ha, .inl (aQ g, 12, .inr (.inr (.inr (.inr (fun j => some (xa j)))))))]) (j_sb [0, 1, 2, 3] rfl rfl) (txs g xa xb y f)) rfl d_Dsk_look_2 (fun r w1 hO => ?_)
      obtain ⟨rfl, rfl⟩ := hO
      show j_V g κ 0 0 5 [(0, .ref x0), (1, .int (nI u)), (2, .int x)] [.int (if 0 ≤ nI u ∧ nI u < nI cnt then (1 : Int32) else 0)] ([(x0, .inr (5, [.ref tw, .ref r0, .ref tk, .ref m0, .ref ha, .int (nI cnt), .int (b2 blk), .int pl, .ref tn, .ref bn, .ref w0])), (tk, .inr (3, [.ref kb, .int (nI n)])), (kb, .inl (aB g, 2000, .inl (bf t))), (ha, .inl (aQ g, 12, .inr (.inr (.inr (.inr (fun j => some (xa j)))))))] ++ txs g xa xb y f)
      refine j_if_neB (pc := 5) (tgt := 12) C d_Dsk_look_5 rfl (fun c5 => ?_) (fun c5 => ?_)
      · skip
        refine j_aload_n (pc := 12) C d_Dsk_look_12 rfl 0 rfl ?_
        refine j_get (pc := 13) C F_Dsk_38 0 rfl rfl d_Dsk_look_13 ?_
        refine j_iload_n (pc := 16) C d_Dsk_look_16 rfl 1 rfl ?_
        refine j_aaldN (pc := 17) (b := xa u) C 3 2 rfl rfl (by omega) (by omega) rfl d_Dsk_look_17 ?_
        refine j_astore_n (pc := 18) (lv' := [(3, .ref (xa u)), (0, .ref x0), (1, .int (nI u)), (2, .int x)]) C d_Dsk_look_18 rfl (by decide) rfl ?_
        refine j_iload_n (pc := 19) C d_Dsk_look_19 rfl 3 rfl ?_
        refine j_tableOut (pc := 20) (tgt := 117) C d_Dsk_look_20 (Or.inl (ts_neg hq)) (by decide) ?_
        refine j_ldc2 (pc := 117) C k_Dsk_132 d_Dsk_look_117 ?_
        exact hR.2.1 _ _ _ _ d_Dsk_look_120 rfl (⟨by first | rw [lookR_neg hu] | rw [lookR_big hu] | (rw [lookR_in hu (by omega)]; unfold lookV; first | rw [sel_neg hq] | rw [sel_big hq] | (rw [he, hb]; rfl)), rfl⟩)
      · skip
        exact absurd ⟨nI_pos' (by omega), nI_lt hu (by omega)⟩ c5
    · skip
      show j_V g κ 0 0 0 [(0, .ref x0), (1, .int (nI u)), (2, .int x)] [] ([(x0, .inr (5, [.ref tw, .ref r0, .ref tk, .ref m0, .ref ha, .int (nI cnt), .int (b2 blk), .int pl, .ref tn, .ref bn, .ref w0])), (tk, .inr (3, [.ref kb, .int (nI n)])), (kb, .inl (aB g, 2000, .inl (bf t))), (ha, .inl (aQ g, 12, .inr (.inr (.inr (.inr (fun j => some (xa j)))))))] ++ txs g xa xb y f)
      refine j_aload_n (pc := 0) C d_Dsk_look_0 rfl 0 rfl ?_
      refine j_iload_n (pc := 1) C d_Dsk_look_1 rfl 1 rfl ?_
      refine j_callV (pc := 2) (As := [.int (nI u)]) (rest := []) (wc := [(x0, .inr (5, [.ref tw, .ref r0, .ref tk, .ref m0, .ref ha, .int (nI cnt), .int (b2 blk), .int pl, .ref tn, .ref bn, .ref w0]))]) (wr := [(tk, .inr (3, [.ref kb, .int (nI n)])), (kb, .inl (aB g, 2000, .inl (bf t))), (ha, .inl (aQ g, 12, .inr (.inr (.inr (.inr (fun j => some (xa j)))))))] ++ txs g xa xb y f) C (c_Dsk_hasTransaction (kl κ) g x0 tw tk r0 m0 ha tn bn w0 cnt blk pl (nI u) (by omega)) Y_Dsk_hasTransaction ml_Dsk_138 im_Dsk_hasTransaction sl_Dsk_hasTransaction rfl ⟨by decide, by decide⟩ rfl (ci := 5) (q0 := 0) rfl rfl rfl (Nat.le_of_ble_eq_true rfl) (by exact j_Sb.app (a := [(x0, .inr (5, [.ref tw, .ref r0, .ref tk, .ref m0, .ref ha, .int (nI cnt), .int (b2 blk), .int pl, .ref tn, .ref bn, .ref w0])), (tk, .inr (3, [.ref kb, .int (nI n)])), (kb, .inl (aB g, 2000, .inl (bf t))), (ha, .inl (aQ g, 12, .inr (.inr (.inr (.inr (fun j => some (xa j)))))))]) (b := [(x0, .inr (5, [.ref tw, .ref r0, .ref tk, .ref m0, .ref ha, .int (nI cnt), .int (b2 blk), .int pl, .ref tn, .ref bn, .ref w0])), (tk, .inr (3, [.ref kb, .int (nI n)])), (kb, .inl (aB g, 2000, .inl (bf t))), (ha, .inl (aQ g, 12, .inr (.inr (.inr (.inr (fun j => some (xa j)))))))]) (j_sb [0, 1, 2, 3] rfl rfl) (txs g xa xb y f)) rfl d_Dsk_look_2 (fun r w1 hO => ?_)
      obtain ⟨rfl, rfl⟩ := hO
      show j_V g κ 0 0 5 [(0, .ref x0), (1, .int (nI u)), (2, .int x)] [.int (if 0 ≤ nI u ∧ nI u < nI cnt then (1 : Int32) else 0)] ([(x0, .inr (5, [.ref tw, .ref r0, .ref tk, .ref m0, .ref ha, .int (nI cnt), .int (b2 blk), .int pl, .ref tn, .ref bn, .ref w0])), (tk, .inr (3, [.ref kb, .int (nI n)])), (kb, .inl (aB g, 2000, .inl (bf t))), (ha, .inl (aQ g, 12, .inr (.inr (.inr (.inr (fun j => some (xa j)))))))] ++ txs g xa xb y f)
      refine j_if_neB (pc := 5) (tgt := 12) C d_Dsk_look_5 rfl (fun c5 => ?_) (fun c5 => ?_)
      · skip
        refine j_aload_n (pc := 12) C d_Dsk_look_12 rfl 0 rfl ?_
        refine j_get (pc := 13) C F_Dsk_38 0 rfl rfl d_Dsk_look_13 ?_
        refine j_iload_n (pc := 16) C d_Dsk_look_16 rfl 1 rfl ?_
        refine j_aaldN (pc := 17) (b := xa u) C 3 2 rfl rfl (by omega) (by omega) rfl d_Dsk_look_17 ?_
        refine j_astore_n (pc := 18) (lv' := [(3, .ref (xa u)), (0, .ref x0), (1, .int (nI u)), (2, .int x)]) C d_Dsk_look_18 rfl (by decide) rfl ?_
        refine j_iload_n (pc := 19) C d_Dsk_look_19 rfl 3 rfl ?_
        refine j_tableOut (pc := 20) (tgt := 117) C d_Dsk_look_20 (Or.inr (ts_big (k := 5) (by decide) hq)) (by decide) ?_
        refine j_ldc2 (pc := 117) C k_Dsk_132 d_Dsk_look_117 ?_
        exact hR.2.1 _ _ _ _ d_Dsk_look_120 rfl (⟨by first | rw [lookR_neg hu] | rw [lookR_big hu] | (rw [lookR_in hu (by omega)]; unfold lookV; first | rw [sel_neg hq] | rw [sel_big hq] | (rw [he, hb]; rfl)), rfl⟩)
      · skip
        exact absurd ⟨nI_pos' (by omega), nI_lt hu (by omega)⟩ c5
    · skip
      rcases (by omega : q = 0 ∨ q = 1 ∨ q = 2 ∨ q = 3 ∨ q = 4 ∨ q = 5) with rfl | rfl | rfl | rfl | rfl | rfl
      · skip
        show j_V g κ 0 0 0 [(0, .ref x0), (1, .int (nI u)), (2, .int (nI 0))] [] ([(x0, .inr (5, [.ref tw, .ref r0, .ref tk, .ref m0, .ref ha, .int (nI cnt), .int (b2 blk), .int pl, .ref tn, .ref bn, .ref w0])), (tk, .inr (3, [.ref kb, .int (nI n)])), (kb, .inl (aB g, 2000, .inl (bf t))), (ha, .inl (aQ g, 12, .inr (.inr (.inr (.inr (fun j => some (xa j)))))))] ++ txs g xa xb y f)
        refine j_aload_n (pc := 0) C d_Dsk_look_0 rfl 0 rfl ?_
        refine j_iload_n (pc := 1) C d_Dsk_look_1 rfl 1 rfl ?_
        refine j_callV (pc := 2) (As := [.int (nI u)]) (rest := []) (wc := [(x0, .inr (5, [.ref tw, .ref r0, .ref tk, .ref m0, .ref ha, .int (nI cnt), .int (b2 blk), .int pl, .ref tn, .ref bn, .ref w0]))]) (wr := [(tk, .inr (3, [.ref kb, .int (nI n)])), (kb, .inl (aB g, 2000, .inl (bf t))), (ha, .inl (aQ g, 12, .inr (.inr (.inr (.inr (fun j => some (xa j)))))))] ++ txs g xa xb y f) C (c_Dsk_hasTransaction (kl κ) g x0 tw tk r0 m0 ha tn bn w0 cnt blk pl (nI u) (by omega)) Y_Dsk_hasTransaction ml_Dsk_138 im_Dsk_hasTransaction sl_Dsk_hasTransaction rfl ⟨by decide, by decide⟩ rfl (ci := 5) (q0 := 0) rfl rfl rfl (Nat.le_of_ble_eq_true rfl) (by exact j_Sb.app (a := [(x0, .inr (5, [.ref tw, .ref r0, .ref tk, .ref m0, .ref ha, .int (nI cnt), .int (b2 blk), .int pl, .ref tn, .ref bn, .ref w0])), (tk, .inr (3, [.ref kb, .int (nI n)])), (kb, .inl (aB g, 2000, .inl (bf t))), (ha, .inl (aQ g, 12, .inr (.inr (.inr (.inr (fun j => some (xa j)))))))]) (b := [(x0, .inr (5, [.ref tw, .ref r0, .ref tk, .ref m0, .ref ha, .int (nI cnt), .int (b2 blk), .int pl, .ref tn, .ref bn, .ref w0])), (tk, .inr (3, [.ref kb, .int (nI n)])), (kb, .inl (aB g, 2000, .inl (bf t))), (ha, .inl (aQ g, 12, .inr (.inr (.inr (.inr (fun j => some (xa j)))))))]) (j_sb [0, 1, 2, 3] rfl rfl) (txs g xa xb y f)) rfl d_Dsk_look_2 (fun r w1 hO => ?_)
        obtain ⟨rfl, rfl⟩ := hO
        show j_V g κ 0 0 5 [(0, .ref x0), (1, .int (nI u)), (2, .int (nI 0))] [.int (if 0 ≤ nI u ∧ nI u < nI cnt then (1 : Int32) else 0)] ([(x0, .inr (5, [.ref tw, .ref r0, .ref tk, .ref m0, .ref ha, .int (nI cnt), .int (b2 blk), .int pl, .ref tn, .ref bn, .ref w0])), (tk, .inr (3, [.ref kb, .int (nI n)])), (kb, .inl (aB g, 2000, .inl (bf t))), (ha, .inl (aQ g, 12, .inr (.inr (.inr (.inr (fun j => some (xa j)))))))] ++ txs g xa xb y f)
        refine j_if_neB (pc := 5) (tgt := 12) C d_Dsk_look_5 rfl (fun c5 => ?_) (fun c5 => ?_)
        · skip
          refine j_aload_n (pc := 12) C d_Dsk_look_12 rfl 0 rfl ?_
          refine j_get (pc := 13) C F_Dsk_38 0 rfl rfl d_Dsk_look_13 ?_
          refine j_iload_n (pc := 16) C d_Dsk_look_16 rfl 1 rfl ?_
          refine j_aaldN (pc := 17) (b := xa u) C 3 2 rfl rfl (by omega) (by omega) rfl d_Dsk_look_17 ?_
          refine j_astore_n (pc := 18) (lv' := [(3, .ref (xa u)), (0, .ref x0), (1, .int (nI u)), (2, .int (nI 0))]) C d_Dsk_look_18 rfl (by decide) rfl ?_
          refine j_iload_n (pc := 19) C d_Dsk_look_19 rfl 3 rfl ?_
          refine j_tableIn (pc := 20) (tgt := 60) C d_Dsk_look_20 (by decide) (by decide) rfl (by decide) ?_
          refine j_aload_n (pc := 60) C d_Dsk_look_60 rfl 1 rfl ?_
          refine j_get (pc := 61) C F_Dsk_26 0 rfl rfl d_Dsk_look_61 ?_
          refine j_aload_n (pc := 64) C d_Dsk_look_64 rfl 0 rfl ?_
          refine j_getM (pc := 65) C F_Dsk_141 (List.mem_append_right _ (txs_mem (u := u) (by omega) txc_0)) rfl d_Dsk_look_65 ?_
          refine j_rwi (y := nI b) (by rw [h0, hb]; rfl) ?_
          refine j_iconst (pc := 68) (v := nI 4) C d_Dsk_look_68 (by decide) ?_
          refine j_callV (pc := 69) (As := [.int (nI b), .int (nI 4)]) (rest := []) (wc := [(tk, .inr (3, [.ref kb, .int (nI n)])), (kb, .inl (aB g, 2000, .inl (bf t)))]) (wr := [(x0, .inr (5, [.ref tw, .ref r0, .ref tk, .ref m0, .ref ha, .int (nI cnt), .int (b2 blk), .int pl, .ref tn, .ref bn, .ref w0])), (ha, .inl (aQ g, 12, .inr (.inr (.inr (.inr (fun j => some (xa j)))))))] ++ txs g xa xb y f) C (c_Txt_lowFirst (kl κ) g tk kb n b 4 t (by omega) hT (by omega) (by omega)) Y_Txt_lowFirst ml_Dsk_134 im_Txt_lowFirst sl_Txt_lowFirst rfl ⟨by decide, by decide⟩ rfl (ci := 3) (q0 := 0) rfl rfl rfl (Nat.le_of_ble_eq_true rfl) (by exact j_Sb.app (a := [(x0, .inr (5, [.ref tw, .ref r0, .ref tk, .ref m0, .ref ha, .int (nI cnt), .int (b2 blk), .int pl, .ref tn, .ref bn, .ref w0])), (tk, .inr (3, [.ref kb, .int (nI n)])), (kb, .inl (aB g, 2000, .inl (bf t))), (ha, .inl (aQ g, 12, .inr (.inr (.inr (.inr (fun j => some (xa j)))))))]) (b := [(tk, .inr (3, [.ref kb, .int (nI n)])), (kb, .inl (aB g, 2000, .inl (bf t))), (x0, .inr (5, [.ref tw, .ref r0, .ref tk, .ref m0, .ref ha, .int (nI cnt), .int (b2 blk), .int pl, .ref tn, .ref bn, .ref w0])), (ha, .inl (aQ g, 12, .inr (.inr (.inr (.inr (fun j => some (xa j)))))))]) (j_sb [1, 2, 0, 3] rfl rfl) (txs g xa xb y f)) rfl d_Dsk_look_69 (fun r w1 hO => ?_)
          obtain ⟨rfl, rfl⟩ := hO
          show j_V g κ 0 0 72 [(3, .ref (xa u)), (0, .ref x0), (1, .int (nI u)), (2, .int (nI 0))] [.long (lN (lf t b 4))] ([(tk, .inr (3, [.ref kb, .int (nI n)])), (kb, .inl (aB g, 2000, .inl (bf t))), (x0, .inr (5, [.ref tw, .ref r0, .ref tk, .ref m0, .ref ha, .int (nI cnt), .int (b2 blk), .int pl, .ref tn, .ref bn, .ref w0])), (ha, .inl (aQ g, 12, .inr (.inr (.inr (.inr (fun j => some (xa j)))))))] ++ txs g xa xb y f)
          refine j_sub (ws' := [(x0, .inr (5, [.ref tw, .ref r0, .ref tk, .ref m0, .ref ha, .int (nI cnt), .int (b2 blk), .int pl, .ref tn, .ref bn, .ref w0])), (tk, .inr (3, [.ref kb, .int (nI n)])), (kb, .inl (aB g, 2000, .inl (bf t))), (ha, .inl (aQ g, 12, .inr (.inr (.inr (.inr (fun j => some (xa j)))))))] ++ txs g xa xb y f) (by exact j_Sb.app (a := [(tk, .inr (3, [.ref kb, .int (nI n)])), (kb, .inl (aB g, 2000, .inl (bf t))), (x0, .inr (5, [.ref tw, .ref r0, .ref tk, .ref m0, .ref ha, .int (nI cnt), .int (b2 blk), .int pl, .ref tn, .ref bn, .ref w0])), (ha, .inl (aQ g, 12, .inr (.inr (.inr (.inr (fun j => some (xa j)))))))]) (b := [(x0, .inr (5, [.ref tw, .ref r0, .ref tk, .ref m0, .ref ha, .int (nI cnt), .int (b2 blk), .int pl, .ref tn, .ref bn, .ref w0])), (tk, .inr (3, [.ref kb, .int (nI n)])), (kb, .inl (aB g, 2000, .inl (bf t))), (ha, .inl (aQ g, 12, .inr (.inr (.inr (.inr (fun j => some (xa j)))))))]) (j_sb [2, 0, 1, 3] rfl rfl) (txs g xa xb y f)) ?_
          exact hR.2.1 _ _ _ _ d_Dsk_look_72 rfl (⟨by first | rw [lookR_neg hu] | rw [lookR_big hu] | (rw [lookR_in hu (by omega)]; unfold lookV; first | rw [sel_neg hq] | rw [sel_big hq] | (rw [he, hb]; rfl)), rfl⟩)
        · skip
          exact absurd ⟨nI_pos' (by omega), nI_lt hu (by omega)⟩ c5
      · skip
        show j_V g κ 0 0 0 [(0, .ref x0), (1, .int (nI u)), (2, .int (nI 1))] [] ([(x0, .inr (5, [.ref tw, .ref r0, .ref tk, .ref m0, .ref ha, .int (nI cnt), .int (b2 blk), .int pl, .ref tn, .ref bn, .ref w0])), (tk, .inr (3, [.ref kb, .int (nI n)])), (kb, .inl (aB g, 2000, .inl (bf t))), (ha, .inl (aQ g, 12, .inr (.inr (.inr (.inr (fun j => some (xa j)))))))] ++ txs g xa xb y f)
        refine j_aload_n (pc := 0) C d_Dsk_look_0 rfl 0 rfl ?_
        refine j_iload_n (pc := 1) C d_Dsk_look_1 rfl 1 rfl ?_
        refine j_callV (pc := 2) (As := [.int (nI u)]) (rest := []) (wc := [(x0, .inr (5, [.ref tw, .ref r0, .ref tk, .ref m0, .ref ha, .int (nI cnt), .int (b2 blk), .int pl, .ref tn, .ref bn, .ref w0]))]) (wr := [(tk, .inr (3, [.ref kb, .int (nI n)])), (kb, .inl (aB g, 2000, .inl (bf t))), (ha, .inl (aQ g, 12, .inr (.inr (.inr (.inr (fun j => some (xa j)))))))] ++ txs g xa xb y f) C (c_Dsk_hasTransaction (kl κ) g x0 tw tk r0 m0 ha tn bn w0 cnt blk pl (nI u) (by omega)) Y_Dsk_hasTransaction ml_Dsk_138 im_Dsk_hasTransaction sl_Dsk_hasTransaction rfl ⟨by decide, by decide⟩ rfl (ci := 5) (q0 := 0) rfl rfl rfl (Nat.le_of_ble_eq_true rfl) (by exact j_Sb.app (a := [(x0, .inr (5, [.ref tw, .ref r0, .ref tk, .ref m0, .ref ha, .int (nI cnt), .int (b2 blk), .int pl, .ref tn, .ref bn, .ref w0])), (tk, .inr (3, [.ref kb, .int (nI n)])), (kb, .inl (aB g, 2000, .inl (bf t))), (ha, .inl (aQ g, 12, .inr (.inr (.inr (.inr (fun j => some (xa j)))))))]) (b := [(x0, .inr (5, [.ref tw, .ref r0, .ref tk, .ref m0, .ref ha, .int (nI cnt), .int (b2 blk), .int pl, .ref tn, .ref bn, .ref w0])), (tk, .inr (3, [.ref kb, .int (nI n)])), (kb, .inl (aB g, 2000, .inl (bf t))), (ha, .inl (aQ g, 12, .inr (.inr (.inr (.inr (fun j => some (xa j)))))))]) (j_sb [0, 1, 2, 3] rfl rfl) (txs g xa xb y f)) rfl d_Dsk_look_2 (fun r w1 hO => ?_)
        obtain ⟨rfl, rfl⟩ := hO
        show j_V g κ 0 0 5 [(0, .ref x0), (1, .int (nI u)), (2, .int (nI 1))] [.int (if 0 ≤ nI u ∧ nI u < nI cnt then (1 : Int32) else 0)] ([(x0, .inr (5, [.ref tw, .ref r0, .ref tk, .ref m0, .ref ha, .int (nI cnt), .int (b2 blk), .int pl, .ref tn, .ref bn, .ref w0])), (tk, .inr (3, [.ref kb, .int (nI n)])), (kb, .inl (aB g, 2000, .inl (bf t))), (ha, .inl (aQ g, 12, .inr (.inr (.inr (.inr (fun j => some (xa j)))))))] ++ txs g xa xb y f)
        refine j_if_neB (pc := 5) (tgt := 12) C d_Dsk_look_5 rfl (fun c5 => ?_) (fun c5 => ?_)
        · skip
          refine j_aload_n (pc := 12) C d_Dsk_look_12 rfl 0 rfl ?_
          refine j_get (pc := 13) C F_Dsk_38 0 rfl rfl d_Dsk_look_13 ?_
          refine j_iload_n (pc := 16) C d_Dsk_look_16 rfl 1 rfl ?_
          refine j_aaldN (pc := 17) (b := xa u) C 3 2 rfl rfl (by omega) (by omega) rfl d_Dsk_look_17 ?_
          refine j_astore_n (pc := 18) (lv' := [(3, .ref (xa u)), (0, .ref x0), (1, .int (nI u)), (2, .int (nI 1))]) C d_Dsk_look_18 rfl (by decide) rfl ?_
          refine j_iload_n (pc := 19) C d_Dsk_look_19 rfl 3 rfl ?_
          refine j_tableIn (pc := 20) (tgt := 73) C d_Dsk_look_20 (by decide) (by decide) rfl (by decide) ?_
          refine j_aload_n (pc := 73) C d_Dsk_look_73 rfl 0 rfl ?_
          refine j_getM (pc := 74) C F_Dsk_143 (List.mem_append_right _ (txs_mem (u := u) (by omega) txc_0)) rfl d_Dsk_look_74 ?_
          refine j_rwi (y := nI ((xZ t n (itN (rTx t n) u s2)).1)) (h2) ?_
          refine j_i2l (pc := 77) (v := lN ((xZ t n (itN (rTx t n) u s2)).1)) C d_Dsk_look_77 (nI_l (by omega)) ?_
          exact hR.2.1 _ _ _ _ d_Dsk_look_78 rfl (⟨by first | rw [lookR_neg hu] | rw [lookR_big hu] | (rw [lookR_in hu (by omega)]; unfold lookV; first | rw [sel_neg hq] | rw [sel_big hq] | (rw [he, hb]; rfl)), rfl⟩)
        · skip
          exact absurd ⟨nI_pos' (by omega), nI_lt hu (by omega)⟩ c5
      · skip
        show j_V g κ 0 0 0 [(0, .ref x0), (1, .int (nI u)), (2, .int (nI 2))] [] ([(x0, .inr (5, [.ref tw, .ref r0, .ref tk, .ref m0, .ref ha, .int (nI cnt), .int (b2 blk), .int pl, .ref tn, .ref bn, .ref w0])), (tk, .inr (3, [.ref kb, .int (nI n)])), (kb, .inl (aB g, 2000, .inl (bf t))), (ha, .inl (aQ g, 12, .inr (.inr (.inr (.inr (fun j => some (xa j)))))))] ++ txs g xa xb y f)
        refine j_aload_n (pc := 0) C d_Dsk_look_0 rfl 0 rfl ?_
        refine j_iload_n (pc := 1) C d_Dsk_look_1 rfl 1 rfl ?_
        refine j_callV (pc := 2) (As := [.int (nI u)]) (rest := []) (wc := [(x0, .inr (5, [.ref tw, .ref r0, .ref tk, .ref m0, .ref ha, .int (nI cnt), .int (b2 blk), .int pl, .ref tn, .ref bn, .ref w0]))]) (wr := [(tk, .inr (3, [.ref kb, .int (nI n)])), (kb, .inl (aB g, 2000, .inl (bf t))), (ha, .inl (aQ g, 12, .inr (.inr (.inr (.inr (fun j => some (xa j)))))))] ++ txs g xa xb y f) C (c_Dsk_hasTransaction (kl κ) g x0 tw tk r0 m0 ha tn bn w0 cnt blk pl (nI u) (by omega)) Y_Dsk_hasTransaction ml_Dsk_138 im_Dsk_hasTransaction sl_Dsk_hasTransaction rfl ⟨by decide, by decide⟩ rfl (ci := 5) (q0 := 0) rfl rfl rfl (Nat.le_of_ble_eq_true rfl) (by exact j_Sb.app (a := [(x0, .inr (5, [.ref tw, .ref r0, .ref tk, .ref m0, .ref ha, .int (nI cnt), .int (b2 blk), .int pl, .ref tn, .ref bn, .ref w0])), (tk, .inr (3, [.ref kb, .int (nI n)])), (kb, .inl (aB g, 2000, .inl (bf t))), (ha, .inl (aQ g, 12, .inr (.inr (.inr (.inr (fun j => some (xa j)))))))]) (b := [(x0, .inr (5, [.ref tw, .ref r0, .ref tk, .ref m0, .ref ha, .int (nI cnt), .int (b2 blk), .int pl, .ref tn, .ref bn, .ref w0])), (tk, .inr (3, [.ref kb, .int (nI n)])), (kb, .inl (aB g, 2000, .inl (bf t))), (ha, .inl (aQ g, 12, .inr (.inr (.inr (.inr (fun j => some (xa j)))))))]) (j_sb [0, 1, 2, 3] rfl rfl) (txs g xa xb y f)) rfl d_Dsk_look_2 (fun r w1 hO => ?_)
        obtain ⟨rfl, rfl⟩ := hO
        show j_V g κ 0 0 5 [(0, .ref x0), (1, .int (nI u)), (2, .int (nI 2))] [.int (if 0 ≤ nI u ∧ nI u < nI cnt then (1 : Int32) else 0)] ([(x0, .inr (5, [.ref tw, .ref r0, .ref tk, .ref m0, .ref ha, .int (nI cnt), .int (b2 blk), .int pl, .ref tn, .ref bn, .ref w0])), (tk, .inr (3, [.ref kb, .int (nI n)])), (kb, .inl (aB g, 2000, .inl (bf t))), (ha, .inl (aQ g, 12, .inr (.inr (.inr (.inr (fun j => some (xa j)))))))] ++ txs g xa xb y f)
        refine j_if_neB (pc := 5) (tgt := 12) C d_Dsk_look_5 rfl (fun c5 => ?_) (fun c5 => ?_)
        · skip
          refine j_aload_n (pc := 12) C d_Dsk_look_12 rfl 0 rfl ?_
          refine j_get (pc := 13) C F_Dsk_38 0 rfl rfl d_Dsk_look_13 ?_
          refine j_iload_n (pc := 16) C d_Dsk_look_16 rfl 1 rfl ?_
          refine j_aaldN (pc := 17) (b := xa u) C 3 2 rfl rfl (by omega) (by omega) rfl d_Dsk_look_17 ?_
          refine j_astore_n (pc := 18) (lv' := [(3, .ref (xa u)), (0, .ref x0), (1, .int (nI u)), (2, .int (nI 2))]) C d_Dsk_look_18 rfl (by decide) rfl ?_
          refine j_iload_n (pc := 19) C d_Dsk_look_19 rfl 3 rfl ?_
          refine j_tableIn (pc := 20) (tgt := 79) C d_Dsk_look_20 (by decide) (by decide) rfl (by decide) ?_
          refine j_aload_n (pc := 79) C d_Dsk_look_79 rfl 0 rfl ?_
          refine j_getM (pc := 80) C F_Dsk_146 (List.mem_append_right _ (txs_mem (u := u) (by omega) txc_0)) rfl d_Dsk_look_80 ?_
          refine j_rwi (y := nI ((xY t n (itN (rTx t n) u s2)).1)) (h3) ?_
          refine j_i2l (pc := 83) (v := lN ((xY t n (itN (rTx t n) u s2)).1)) C d_Dsk_look_83 (nI_l (by omega)) ?_
          exact hR.2.1 _ _ _ _ d_Dsk_look_84 rfl (⟨by first | rw [lookR_neg hu] | rw [lookR_big hu] | (rw [lookR_in hu (by omega)]; unfold lookV; first | rw [sel_neg hq] | rw [sel_big hq] | (rw [he, hb]; rfl)), rfl⟩)
        · skip
          exact absurd ⟨nI_pos' (by omega), nI_lt hu (by omega)⟩ c5
      · skip
        show j_V g κ 0 0 0 [(0, .ref x0), (1, .int (nI u)), (2, .int (nI 3))] [] ([(x0, .inr (5, [.ref tw, .ref r0, .ref tk, .ref m0, .ref ha, .int (nI cnt), .int (b2 blk), .int pl, .ref tn, .ref bn, .ref w0])), (tk, .inr (3, [.ref kb, .int (nI n)])), (kb, .inl (aB g, 2000, .inl (bf t))), (ha, .inl (aQ g, 12, .inr (.inr (.inr (.inr (fun j => some (xa j)))))))] ++ txs g xa xb y f)
        refine j_aload_n (pc := 0) C d_Dsk_look_0 rfl 0 rfl ?_
        refine j_iload_n (pc := 1) C d_Dsk_look_1 rfl 1 rfl ?_
        refine j_callV (pc := 2) (As := [.int (nI u)]) (rest := []) (wc := [(x0, .inr (5, [.ref tw, .ref r0, .ref tk, .ref m0, .ref ha, .int (nI cnt), .int (b2 blk), .int pl, .ref tn, .ref bn, .ref w0]))]) (wr := [(tk, .inr (3, [.ref kb, .int (nI n)])), (kb, .inl (aB g, 2000, .inl (bf t))), (ha, .inl (aQ g, 12, .inr (.inr (.inr (.inr (fun j => some (xa j)))))))] ++ txs g xa xb y f) C (c_Dsk_hasTransaction (kl κ) g x0 tw tk r0 m0 ha tn bn w0 cnt blk pl (nI u) (by omega)) Y_Dsk_hasTransaction ml_Dsk_138 im_Dsk_hasTransaction sl_Dsk_hasTransaction rfl ⟨by decide, by decide⟩ rfl (ci := 5) (q0 := 0) rfl rfl rfl (Nat.le_of_ble_eq_true rfl) (by exact j_Sb.app (a := [(x0, .inr (5, [.ref tw, .ref r0, .ref tk, .ref m0, .ref ha, .int (nI cnt), .int (b2 blk), .int pl, .ref tn, .ref bn, .ref w0])), (tk, .inr (3, [.ref kb, .int (nI n)])), (kb, .inl (aB g, 2000, .inl (bf t))), (ha, .inl (aQ g, 12, .inr (.inr (.inr (.inr (fun j => some (xa j)))))))]) (b := [(x0, .inr (5, [.ref tw, .ref r0, .ref tk, .ref m0, .ref ha, .int (nI cnt), .int (b2 blk), .int pl, .ref tn, .ref bn, .ref w0])), (tk, .inr (3, [.ref kb, .int (nI n)])), (kb, .inl (aB g, 2000, .inl (bf t))), (ha, .inl (aQ g, 12, .inr (.inr (.inr (.inr (fun j => some (xa j)))))))]) (j_sb [0, 1, 2, 3] rfl rfl) (txs g xa xb y f)) rfl d_Dsk_look_2 (fun r w1 hO => ?_)
        obtain ⟨rfl, rfl⟩ := hO
        show j_V g κ 0 0 5 [(0, .ref x0), (1, .int (nI u)), (2, .int (nI 3))] [.int (if 0 ≤ nI u ∧ nI u < nI cnt then (1 : Int32) else 0)] ([(x0, .inr (5, [.ref tw, .ref r0, .ref tk, .ref m0, .ref ha, .int (nI cnt), .int (b2 blk), .int pl, .ref tn, .ref bn, .ref w0])), (tk, .inr (3, [.ref kb, .int (nI n)])), (kb, .inl (aB g, 2000, .inl (bf t))), (ha, .inl (aQ g, 12, .inr (.inr (.inr (.inr (fun j => some (xa j)))))))] ++ txs g xa xb y f)
        refine j_if_neB (pc := 5) (tgt := 12) C d_Dsk_look_5 rfl (fun c5 => ?_) (fun c5 => ?_)
        · skip
          refine j_aload_n (pc := 12) C d_Dsk_look_12 rfl 0 rfl ?_
          refine j_get (pc := 13) C F_Dsk_38 0 rfl rfl d_Dsk_look_13 ?_
          refine j_iload_n (pc := 16) C d_Dsk_look_16 rfl 1 rfl ?_
          refine j_aaldN (pc := 17) (b := xa u) C 3 2 rfl rfl (by omega) (by omega) rfl d_Dsk_look_17 ?_
          refine j_astore_n (pc := 18) (lv' := [(3, .ref (xa u)), (0, .ref x0), (1, .int (nI u)), (2, .int (nI 3))]) C d_Dsk_look_18 rfl (by decide) rfl ?_
          refine j_iload_n (pc := 19) C d_Dsk_look_19 rfl 3 rfl ?_
          refine j_tableIn (pc := 20) (tgt := 85) C d_Dsk_look_20 (by decide) (by decide) rfl (by decide) ?_
          refine j_aload_n (pc := 85) C d_Dsk_look_85 rfl 1 rfl ?_
          refine j_get (pc := 86) C F_Dsk_26 0 rfl rfl d_Dsk_look_86 ?_
          refine j_aload_n (pc := 89) C d_Dsk_look_89 rfl 0 rfl ?_
          refine j_getM (pc := 90) C F_Dsk_149 (List.mem_append_right _ (txs_mem (u := u) (by omega) txc_0)) rfl d_Dsk_look_90 ?_
          refine j_rwi (y := nI e) (h1) ?_
          refine j_iconst (pc := 93) (v := nI 4) C d_Dsk_look_93 (by decide) ?_
          refine j_isubN (pc := 94) C (by omega) d_Dsk_look_94 ?_
          refine j_iconst (pc := 95) (v := nI 4) C d_Dsk_look_95 (by decide) ?_
          refine j_callV (pc := 96) (As := [.int (nI (e - 4)), .int (nI 4)]) (rest := []) (wc := [(tk, .inr (3, [.ref kb, .int (nI n)])), (kb, .inl (aB g, 2000, .inl (bf t)))]) (wr := [(x0, .inr (5, [.ref tw, .ref r0, .ref tk, .ref m0, .ref ha, .int (nI cnt), .int (b2 blk), .int pl, .ref tn, .ref bn, .ref w0])), (ha, .inl (aQ g, 12, .inr (.inr (.inr (.inr (fun j => some (xa j)))))))] ++ txs g xa xb y f) C (c_Txt_lowFirst (kl κ) g tk kb n (e - 4) 4 t (by omega) hT (by omega) (by omega)) Y_Txt_lowFirst ml_Dsk_134 im_Txt_lowFirst sl_Txt_lowFirst rfl ⟨by decide, by decide⟩ rfl (ci := 3) (q0 := 0) rfl rfl rfl (Nat.le_of_ble_eq_true rfl) (by exact j_Sb.app (a := [(x0, .inr (5, [.ref tw, .ref r0, .ref tk, .ref m0, .ref ha, .int (nI cnt), .int (b2 blk), .int pl, .ref tn, .ref bn, .ref w0])), (tk, .inr (3, [.ref kb, .int (nI n)])), (kb, .inl (aB g, 2000, .inl (bf t))), (ha, .inl (aQ g, 12, .inr (.inr (.inr (.inr (fun j => some (xa j)))))))]) (b := [(tk, .inr (3, [.ref kb, .int (nI n)])), (kb, .inl (aB g, 2000, .inl (bf t))), (x0, .inr (5, [.ref tw, .ref r0, .ref tk, .ref m0, .ref ha, .int (nI cnt), .int (b2 blk), .int pl, .ref tn, .ref bn, .ref w0])), (ha, .inl (aQ g, 12, .inr (.inr (.inr (.inr (fun j => some (xa j)))))))]) (j_sb [1, 2, 0, 3] rfl rfl) (txs g xa xb y f)) rfl d_Dsk_look_96 (fun r w1 hO => ?_)
          obtain ⟨rfl, rfl⟩ := hO
          show j_V g κ 0 0 99 [(3, .ref (xa u)), (0, .ref x0), (1, .int (nI u)), (2, .int (nI 3))] [.long (lN (lf t (e - 4) 4))] ([(tk, .inr (3, [.ref kb, .int (nI n)])), (kb, .inl (aB g, 2000, .inl (bf t))), (x0, .inr (5, [.ref tw, .ref r0, .ref tk, .ref m0, .ref ha, .int (nI cnt), .int (b2 blk), .int pl, .ref tn, .ref bn, .ref w0])), (ha, .inl (aQ g, 12, .inr (.inr (.inr (.inr (fun j => some (xa j)))))))] ++ txs g xa xb y f)
          refine j_sub (ws' := [(x0, .inr (5, [.ref tw, .ref r0, .ref tk, .ref m0, .ref ha, .int (nI cnt), .int (b2 blk), .int pl, .ref tn, .ref bn, .ref w0])), (tk, .inr (3, [.ref kb, .int (nI n)])), (kb, .inl (aB g, 2000, .inl (bf t))), (ha, .inl (aQ g, 12, .inr (.inr (.inr (.inr (fun j => some (xa j)))))))] ++ txs g xa xb y f) (by exact j_Sb.app (a := [(tk, .inr (3, [.ref kb, .int (nI n)])), (kb, .inl (aB g, 2000, .inl (bf t))), (x0, .inr (5, [.ref tw, .ref r0, .ref tk, .ref m0, .ref ha, .int (nI cnt), .int (b2 blk), .int pl, .ref tn, .ref bn, .ref w0])), (ha, .inl (aQ g, 12, .inr (.inr (.inr (.inr (fun j => some (xa j)))))))]) (b := [(x0, .inr (5, [.ref tw, .ref r0, .ref tk, .ref m0, .ref ha, .int (nI cnt), .int (b2 blk), .int pl, .ref tn, .ref bn, .ref w0])), (tk, .inr (3, [.ref kb, .int (nI n)])), (kb, .inl (aB g, 2000, .inl (bf t))), (ha, .inl (aQ g, 12, .inr (.inr (.inr (.inr (fun j => some (xa j)))))))]) (j_sb [2, 0, 1, 3] rfl rfl) (txs g xa xb y f)) ?_
          exact hR.2.1 _ _ _ _ d_Dsk_look_99 rfl (⟨by first | rw [lookR_neg hu] | rw [lookR_big hu] | (rw [lookR_in hu (by omega)]; unfold lookV; first | rw [sel_neg hq] | rw [sel_big hq] | (rw [he, hb]; rfl)), rfl⟩)
        · skip
          exact absurd ⟨nI_pos' (by omega), nI_lt hu (by omega)⟩ c5
      · skip
        show j_V g κ 0 0 0 [(0, .ref x0), (1, .int (nI u)), (2, .int (nI 4))] [] ([(x0, .inr (5, [.ref tw, .ref r0, .ref tk, .ref m0, .ref ha, .int (nI cnt), .int (b2 blk), .int pl, .ref tn, .ref bn, .ref w0])), (tk, .inr (3, [.ref kb, .int (nI n)])), (kb, .inl (aB g, 2000, .inl (bf t))), (ha, .inl (aQ g, 12, .inr (.inr (.inr (.inr (fun j => some (xa j)))))))] ++ txs g xa xb y f)
        refine j_aload_n (pc := 0) C d_Dsk_look_0 rfl 0 rfl ?_
        refine j_iload_n (pc := 1) C d_Dsk_look_1 rfl 1 rfl ?_
        refine j_callV (pc := 2) (As := [.int (nI u)]) (rest := []) (wc := [(x0, .inr (5, [.ref tw, .ref r0, .ref tk, .ref m0, .ref ha, .int (nI cnt), .int (b2 blk), .int pl, .ref tn, .ref bn, .ref w0]))]) (wr := [(tk, .inr (3, [.ref kb, .int (nI n)])), (kb, .inl (aB g, 2000, .inl (bf t))), (ha, .inl (aQ g, 12, .inr (.inr (.inr (.inr (fun j => some (xa j)))))))] ++ txs g xa xb y f) C (c_Dsk_hasTransaction (kl κ) g x0 tw tk r0 m0 ha tn bn w0 cnt blk pl (nI u) (by omega)) Y_Dsk_hasTransaction ml_Dsk_138 im_Dsk_hasTransaction sl_Dsk_hasTransaction rfl ⟨by decide, by decide⟩ rfl (ci := 5) (q0 := 0) rfl rfl rfl (Nat.le_of_ble_eq_true rfl) (by exact j_Sb.app (a := [(x0, .inr (5, [.ref tw, .ref r0, .ref tk, .ref m0, .ref ha, .int (nI cnt), .int (b2 blk), .int pl, .ref tn, .ref bn, .ref w0])), (tk, .inr (3, [.ref kb, .int (nI n)])), (kb, .inl (aB g, 2000, .inl (bf t))), (ha, .inl (aQ g, 12, .inr (.inr (.inr (.inr (fun j => some (xa j)))))))]) (b := [(x0, .inr (5, [.ref tw, .ref r0, .ref tk, .ref m0, .ref ha, .int (nI cnt), .int (b2 blk), .int pl, .ref tn, .ref bn, .ref w0])), (tk, .inr (3, [.ref kb, .int (nI n)])), (kb, .inl (aB g, 2000, .inl (bf t))), (ha, .inl (aQ g, 12, .inr (.inr (.inr (.inr (fun j => some (xa j)))))))]) (j_sb [0, 1, 2, 3] rfl rfl) (txs g xa xb y f)) rfl d_Dsk_look_2 (fun r w1 hO => ?_)
        obtain ⟨rfl, rfl⟩ := hO
        show j_V g κ 0 0 5 [(0, .ref x0), (1, .int (nI u)), (2, .int (nI 4))] [.int (if 0 ≤ nI u ∧ nI u < nI cnt then (1 : Int32) else 0)] ([(x0, .inr (5, [.ref tw, .ref r0, .ref tk, .ref m0, .ref ha, .int (nI cnt), .int (b2 blk), .int pl, .ref tn, .ref bn, .ref w0])), (tk, .inr (3, [.ref kb, .int (nI n)])), (kb, .inl (aB g, 2000, .inl (bf t))), (ha, .inl (aQ g, 12, .inr (.inr (.inr (.inr (fun j => some (xa j)))))))] ++ txs g xa xb y f)
        refine j_if_neB (pc := 5) (tgt := 12) C d_Dsk_look_5 rfl (fun c5 => ?_) (fun c5 => ?_)
        · skip
          refine j_aload_n (pc := 12) C d_Dsk_look_12 rfl 0 rfl ?_
          refine j_get (pc := 13) C F_Dsk_38 0 rfl rfl d_Dsk_look_13 ?_
          refine j_iload_n (pc := 16) C d_Dsk_look_16 rfl 1 rfl ?_
          refine j_aaldN (pc := 17) (b := xa u) C 3 2 rfl rfl (by omega) (by omega) rfl d_Dsk_look_17 ?_
          refine j_astore_n (pc := 18) (lv' := [(3, .ref (xa u)), (0, .ref x0), (1, .int (nI u)), (2, .int (nI 4))]) C d_Dsk_look_18 rfl (by decide) rfl ?_
          refine j_iload_n (pc := 19) C d_Dsk_look_19 rfl 3 rfl ?_
          refine j_tableIn (pc := 20) (tgt := 100) C d_Dsk_look_20 (by decide) (by decide) rfl (by decide) ?_
          refine j_aload_n (pc := 100) C d_Dsk_look_100 rfl 0 rfl ?_
          refine j_getM (pc := 101) C F_Dsk_141 (List.mem_append_right _ (txs_mem (u := u) (by omega) txc_0)) rfl d_Dsk_look_101 ?_
          refine j_rwi (y := nI b) (by rw [h0, hb]; rfl) ?_
          refine j_i2l (pc := 104) (v := lN b) C d_Dsk_look_104 (nI_l (by omega)) ?_
          exact hR.2.1 _ _ _ _ d_Dsk_look_105 rfl (⟨by first | rw [lookR_neg hu] | rw [lookR_big hu] | (rw [lookR_in hu (by omega)]; unfold lookV; first | rw [sel_neg hq] | rw [sel_big hq] | (rw [he, hb]; rfl)), rfl⟩)
        · skip
          exact absurd ⟨nI_pos' (by omega), nI_lt hu (by omega)⟩ c5
      · skip
        show j_V g κ 0 0 0 [(0, .ref x0), (1, .int (nI u)), (2, .int (nI 5))] [] ([(x0, .inr (5, [.ref tw, .ref r0, .ref tk, .ref m0, .ref ha, .int (nI cnt), .int (b2 blk), .int pl, .ref tn, .ref bn, .ref w0])), (tk, .inr (3, [.ref kb, .int (nI n)])), (kb, .inl (aB g, 2000, .inl (bf t))), (ha, .inl (aQ g, 12, .inr (.inr (.inr (.inr (fun j => some (xa j)))))))] ++ txs g xa xb y f)
        refine j_aload_n (pc := 0) C d_Dsk_look_0 rfl 0 rfl ?_
        refine j_iload_n (pc := 1) C d_Dsk_look_1 rfl 1 rfl ?_
        refine j_callV (pc := 2) (As := [.int (nI u)]) (rest := []) (wc := [(x0, .inr (5, [.ref tw, .ref r0, .ref tk, .ref m0, .ref ha, .int (nI cnt), .int (b2 blk), .int pl, .ref tn, .ref bn, .ref w0]))]) (wr := [(tk, .inr (3, [.ref kb, .int (nI n)])), (kb, .inl (aB g, 2000, .inl (bf t))), (ha, .inl (aQ g, 12, .inr (.inr (.inr (.inr (fun j => some (xa j)))))))] ++ txs g xa xb y f) C (c_Dsk_hasTransaction (kl κ) g x0 tw tk r0 m0 ha tn bn w0 cnt blk pl (nI u) (by omega)) Y_Dsk_hasTransaction ml_Dsk_138 im_Dsk_hasTransaction sl_Dsk_hasTransaction rfl ⟨by decide, by decide⟩ rfl (ci := 5) (q0 := 0) rfl rfl rfl (Nat.le_of_ble_eq_true rfl) (by exact j_Sb.app (a := [(x0, .inr (5, [.ref tw, .ref r0, .ref tk, .ref m0, .ref ha, .int (nI cnt), .int (b2 blk), .int pl, .ref tn, .ref bn, .ref w0])), (tk, .inr (3, [.ref kb, .int (nI n)])), (kb, .inl (aB g, 2000, .inl (bf t))), (ha, .inl (aQ g, 12, .inr (.inr (.inr (.inr (fun j => some (xa j)))))))]) (b := [(x0, .inr (5, [.ref tw, .ref r0, .ref tk, .ref m0, .ref ha, .int (nI cnt), .int (b2 blk), .int pl, .ref tn, .ref bn, .ref w0])), (tk, .inr (3, [.ref kb, .int (nI n)])), (kb, .inl (aB g, 2000, .inl (bf t))), (ha, .inl (aQ g, 12, .inr (.inr (.inr (.inr (fun j => some (xa j)))))))]) (j_sb [0, 1, 2, 3] rfl rfl) (txs g xa xb y f)) rfl d_Dsk_look_2 (fun r w1 hO => ?_)
        obtain ⟨rfl, rfl⟩ := hO
        show j_V g κ 0 0 5 [(0, .ref x0), (1, .int (nI u)), (2, .int (nI 5))] [.int (if 0 ≤ nI u ∧ nI u < nI cnt then (1 : Int32) else 0)] ([(x0, .inr (5, [.ref tw, .ref r0, .ref tk, .ref m0, .ref ha, .int (nI cnt), .int (b2 blk), .int pl, .ref tn, .ref bn, .ref w0])), (tk, .inr (3, [.ref kb, .int (nI n)])), (kb, .inl (aB g, 2000, .inl (bf t))), (ha, .inl (aQ g, 12, .inr (.inr (.inr (.inr (fun j => some (xa j)))))))] ++ txs g xa xb y f)
        refine j_if_neB (pc := 5) (tgt := 12) C d_Dsk_look_5 rfl (fun c5 => ?_) (fun c5 => ?_)
        · skip
          refine j_aload_n (pc := 12) C d_Dsk_look_12 rfl 0 rfl ?_
          refine j_get (pc := 13) C F_Dsk_38 0 rfl rfl d_Dsk_look_13 ?_
          refine j_iload_n (pc := 16) C d_Dsk_look_16 rfl 1 rfl ?_
          refine j_aaldN (pc := 17) (b := xa u) C 3 2 rfl rfl (by omega) (by omega) rfl d_Dsk_look_17 ?_
          refine j_astore_n (pc := 18) (lv' := [(3, .ref (xa u)), (0, .ref x0), (1, .int (nI u)), (2, .int (nI 5))]) C d_Dsk_look_18 rfl (by decide) rfl ?_
          refine j_iload_n (pc := 19) C d_Dsk_look_19 rfl 3 rfl ?_
          refine j_tableIn (pc := 20) (tgt := 106) C d_Dsk_look_20 (by decide) (by decide) rfl (by decide) ?_
          refine j_aload_n (pc := 106) C d_Dsk_look_106 rfl 0 rfl ?_
          refine j_getM (pc := 107) C F_Dsk_149 (List.mem_append_right _ (txs_mem (u := u) (by omega) txc_0)) rfl d_Dsk_look_107 ?_
          refine j_rwi (y := nI e) (h1) ?_
          refine j_aload_n (pc := 110) C d_Dsk_look_110 rfl 0 rfl ?_
          refine j_getM (pc := 111) C F_Dsk_141 (List.mem_append_right _ (txs_mem (u := u) (by omega) txc_0)) rfl d_Dsk_look_111 ?_
          refine j_rwi (y := nI b) (by rw [h0, hb]; rfl) ?_
          refine j_isubN (pc := 114) C (by omega) d_Dsk_look_114 ?_
          refine j_i2l (pc := 115) (v := lN (e - b)) C d_Dsk_look_115 (nI_l (by omega)) ?_
          exact hR.2.1 _ _ _ _ d_Dsk_look_116 rfl (⟨by first | rw [lookR_neg hu] | rw [lookR_big hu] | (rw [lookR_in hu (by omega)]; unfold lookV; first | rw [sel_neg hq] | rw [sel_big hq] | (rw [he, hb]; rfl)), rfl⟩)
        · skip
          exact absurd ⟨nI_pos' (by omega), nI_lt hu (by omega)⟩ c5
abbrev rm_Dsk_input : Room := { frames := 1, cells := 0, slots := 0, locals := 25 }
set_option maxHeartbeats 4000000 in
set_option maxRecDepth 100000 in
theorem c_Dsk_input (l : Launch) (g : JX) (x0 tw tk r0 m0 ha tn bn w0 cnt : Nat) (blk : Bool) (pl : Int32) (kb n : Nat) (xa : Nat → Nat) (xb : Nat → Nat → Nat) (t : Nat → Nat) (s2 : RS) (y : Nat → Nat → Int32) (f : Nat → Nat → Nat → Int32) (tt i0 x : Int32) (hn : n ≤ 2000) (hT : ∀ j, t j < 256) (hc : cnt ≤ 12) (hA : TxAll t n s2 cnt y f) (hE : 0 < cnt → ∃ e0, itN (rTx t n) cnt s2 = .inl e0) : j_Ct l y_Dsk_input b_Dsk_input 8 (some .long) rm_Dsk_input g ([(x0, .inr (5, [.ref tw, .ref r0, .ref tk, .ref m0, .ref ha, .int (nI cnt), .int (b2 blk), .int pl, .ref tn, .ref bn, .ref w0])), (tk, .inr (3, [.ref kb, .int (nI n)])), (kb, .inl (aB g, 2000, .inl (bf t))), (ha, .inl (aQ g, 12, .inr (.inr (.inr (.inr (fun j => some (xa j)))))))] ++ txs g xa xb y f) [.ref x0, .int tt, .int i0, .int x] (fun r w => r = some (.long (inR t n s2 cnt tt i0 x)) ∧ w = [(x0, .inr (5, [.ref tw, .ref r0, .ref tk, .ref m0, .ref ha, .int (nI cnt), .int (b2 blk), .int pl, .ref tn, .ref bn, .ref w0])), (tk, .inr (3, [.ref kb, .int (nI n)])), (kb, .inl (aB g, 2000, .inl (bf t))), (ha, .inl (aQ g, 12, .inr (.inr (.inr (.inr (fun j => some (xa j)))))))] ++ txs g xa xb y f) 0 0 := by
  refine j_ct (by decide) (Nat.le_of_ble_eq_true rfl) (fun κ hkl C hR hI => ?_)
  show j_V g κ 0 0 0 [(0, .ref x0), (1, .int tt), (2, .int i0), (3, .int x)] [] ([(x0, .inr (5, [.ref tw, .ref r0, .ref tk, .ref m0, .ref ha, .int (nI cnt), .int (b2 blk), .int pl, .ref tn, .ref bn, .ref w0])), (tk, .inr (3, [.ref kb, .int (nI n)])), (kb, .inl (aB g, 2000, .inl (bf t))), (ha, .inl (aQ g, 12, .inr (.inr (.inr (.inr (fun j => some (xa j)))))))] ++ txs g xa xb y f)
  rcases pk_ix tt (n := cnt) (by omega) with hu | hu | ⟨u, hu, rfl⟩
  · skip
    show j_V g κ 0 0 0 [(0, .ref x0), (1, .int tt), (2, .int i0), (3, .int x)] [] ([(x0, .inr (5, [.ref tw, .ref r0, .ref tk, .ref m0, .ref ha, .int (nI cnt), .int (b2 blk), .int pl, .ref tn, .ref bn, .ref w0])), (tk, .inr (3, [.ref kb, .int (nI n)])), (kb, .inl (aB g, 2000, .inl (bf t))), (ha, .inl (aQ g, 12, .inr (.inr (.inr (.inr (fun j => some (xa j)))))))] ++ txs g xa xb y f)
    refine j_aload_n (pc := 0) C d_Dsk_input_0 rfl 0 rfl ?_
    refine j_iload_n (pc := 1) C d_Dsk_input_1 rfl 1 rfl ?_
    refine j_callV (pc := 2) (As := [.int tt]) (rest := []) (wc := [(x0, .inr (5, [.ref tw, .ref r0, .ref tk, .ref m0, .ref ha, .int (nI cnt), .int (b2 blk), .int pl, .ref tn, .ref bn, .ref w0]))]) (wr := [(tk, .inr (3, [.ref kb, .int (nI n)])), (kb, .inl (aB g, 2000, .inl (bf t))), (ha, .inl (aQ g, 12, .inr (.inr (.inr (.inr (fun j => some (xa j)))))))] ++ txs g xa xb y f) C (c_Dsk_hasTransaction (kl κ) g x0 tw tk r0 m0 ha tn bn w0 cnt blk pl tt (by omega)) Y_Dsk_hasTransaction ml_Dsk_138 im_Dsk_hasTransaction sl_Dsk_hasTransaction rfl ⟨by decide, by decide⟩ rfl (ci := 5) (q0 := 0) rfl rfl rfl (Nat.le_of_ble_eq_true rfl) (by exact j_Sb.app (a := [(x0, .inr (5, [.ref tw, .ref r0, .ref tk, .ref m0, .ref ha, .int (nI cnt), .int (b2 blk), .int pl, .ref tn, .ref bn, .ref w0])), (tk, .inr (3, [.ref kb, .int (nI n)])), (kb, .inl (aB g, 2000, .inl (bf t))), (ha, .inl (aQ g, 12, .inr (.inr (.inr (.inr (fun j => some (xa j)))))))]) (b := [(x0, .inr (5, [.ref tw, .ref r0, .ref tk, .ref m0, .ref ha, .int (nI cnt), .int (b2 blk), .int pl, .ref tn, .ref bn, .ref w0])), (tk, .inr (3, [.ref kb, .int (nI n)])), (kb, .inl (aB g, 2000, .inl (bf t))), (ha, .inl (aQ g, 12, .inr (.inr (.inr (.inr (fun j => some (xa j)))))))]) (j_sb [0, 1, 2, 3] rfl rfl) (txs g xa xb y f)) rfl d_Dsk_input_2 (fun r w1 hO => ?_)
    obtain ⟨rfl, rfl⟩ := hO
    show j_V g κ 0 0 5 [(0, .ref x0), (1, .int tt), (2, .int i0), (3, .int x)] [.int (if 0 ≤ tt ∧ tt < nI cnt then (1 : Int32) else 0)] ([(x0, .inr (5, [.ref tw, .ref r0, .ref tk, .ref m0, .ref ha, .int (nI cnt), .int (b2 blk), .int pl, .ref tn, .ref bn, .ref w0])), (tk, .inr (3, [.ref kb, .int (nI n)])), (kb, .inl (aB g, 2000, .inl (bf t))), (ha, .inl (aQ g, 12, .inr (.inr (.inr (.inr (fun j => some (xa j)))))))] ++ txs g xa xb y f)
    refine j_if_eqB (pc := 5) (tgt := 25) C d_Dsk_input_5 rfl (fun c5 => ?_) (fun c5 => ?_)
    · skip
      refine j_ldc2 (pc := 25) C k_Dsk_132 d_Dsk_input_25 ?_
      exact hR.2.1 _ _ _ _ d_Dsk_input_28 rfl (⟨by first | (exfalso; omega) | rw [inR_neg hu] | rw [inR_big hu] | (rw [inR_1 hu (by omega), if_neg (fun z => nlt0 (by assumption) z.1)]) | (rw [inR_1 hu (by omega), if_neg (fun z => nle (by assumption) z.2)]) | (rw [inR_in hu (by omega) hi (by omega)]; unfold inV; first | rw [sel_neg hq] | rw [sel_big hq] | (rw [g2, g1]; rfl)), rfl⟩)
    · skip
      first | exact absurd c5.1 (nlt0 hu) | exact absurd c5.2 (nle hu)
  · skip
    show j_V g κ 0 0 0 [(0, .ref x0), (1, .int tt), (2, .int i0), (3, .int x)] [] ([(x0, .inr (5, [.ref tw, .ref r0, .ref tk, .ref m0, .ref ha, .int (nI cnt), .int (b2 blk), .int pl, .ref tn, .ref bn, .ref w0])), (tk, .inr (3, [.ref kb, .int (nI n)])), (kb, .inl (aB g, 2000, .inl (bf t))), (ha, .inl (aQ g, 12, .inr (.inr (.inr (.inr (fun j => some (xa j)))))))] ++ txs g xa xb y f)
    refine j_aload_n (pc := 0) C d_Dsk_input_0 rfl 0 rfl ?_
    refine j_iload_n (pc := 1) C d_Dsk_input_1 rfl 1 rfl ?_
    refine j_callV (pc := 2) (As := [.int tt]) (rest := []) (wc := [(x0, .inr (5, [.ref tw, .ref r0, .ref tk, .ref m0, .ref ha, .int (nI cnt), .int (b2 blk), .int pl, .ref tn, .ref bn, .ref w0]))]) (wr := [(tk, .inr (3, [.ref kb, .int (nI n)])), (kb, .inl (aB g, 2000, .inl (bf t))), (ha, .inl (aQ g, 12, .inr (.inr (.inr (.inr (fun j => some (xa j)))))))] ++ txs g xa xb y f) C (c_Dsk_hasTransaction (kl κ) g x0 tw tk r0 m0 ha tn bn w0 cnt blk pl tt (by omega)) Y_Dsk_hasTransaction ml_Dsk_138 im_Dsk_hasTransaction sl_Dsk_hasTransaction rfl ⟨by decide, by decide⟩ rfl (ci := 5) (q0 := 0) rfl rfl rfl (Nat.le_of_ble_eq_true rfl) (by exact j_Sb.app (a := [(x0, .inr (5, [.ref tw, .ref r0, .ref tk, .ref m0, .ref ha, .int (nI cnt), .int (b2 blk), .int pl, .ref tn, .ref bn, .ref w0])), (tk, .inr (3, [.ref kb, .int (nI n)])), (kb, .inl (aB g, 2000, .inl (bf t))), (ha, .inl (aQ g, 12, .inr (.inr (.inr (.inr (fun j => some (xa j)))))))]) (b := [(x0, .inr (5, [.ref tw, .ref r0, .ref tk, .ref m0, .ref ha, .int (nI cnt), .int (b2 blk), .int pl, .ref tn, .ref bn, .ref w0])), (tk, .inr (3, [.ref kb, .int (nI n)])), (kb, .inl (aB g, 2000, .inl (bf t))), (ha, .inl (aQ g, 12, .inr (.inr (.inr (.inr (fun j => some (xa j)))))))]) (j_sb [0, 1, 2, 3] rfl rfl) (txs g xa xb y f)) rfl d_Dsk_input_2 (fun r w1 hO => ?_)
    obtain ⟨rfl, rfl⟩ := hO
    show j_V g κ 0 0 5 [(0, .ref x0), (1, .int tt), (2, .int i0), (3, .int x)] [.int (if 0 ≤ tt ∧ tt < nI cnt then (1 : Int32) else 0)] ([(x0, .inr (5, [.ref tw, .ref r0, .ref tk, .ref m0, .ref ha, .int (nI cnt), .int (b2 blk), .int pl, .ref tn, .ref bn, .ref w0])), (tk, .inr (3, [.ref kb, .int (nI n)])), (kb, .inl (aB g, 2000, .inl (bf t))), (ha, .inl (aQ g, 12, .inr (.inr (.inr (.inr (fun j => some (xa j)))))))] ++ txs g xa xb y f)
    refine j_if_eqB (pc := 5) (tgt := 25) C d_Dsk_input_5 rfl (fun c5 => ?_) (fun c5 => ?_)
    · skip
      refine j_ldc2 (pc := 25) C k_Dsk_132 d_Dsk_input_25 ?_
      exact hR.2.1 _ _ _ _ d_Dsk_input_28 rfl (⟨by first | (exfalso; omega) | rw [inR_neg hu] | rw [inR_big hu] | (rw [inR_1 hu (by omega), if_neg (fun z => nlt0 (by assumption) z.1)]) | (rw [inR_1 hu (by omega), if_neg (fun z => nle (by assumption) z.2)]) | (rw [inR_in hu (by omega) hi (by omega)]; unfold inV; first | rw [sel_neg hq] | rw [sel_big hq] | (rw [g2, g1]; rfl)), rfl⟩)
    · skip
      first | exact absurd c5.1 (nlt0 hu) | exact absurd c5.2 (nle hu)
  · skip
    obtain ⟨e0, hE0⟩ := hE (by omega)
    obtain ⟨b, e, hb, he, hbe, hen, he4⟩ := tx_st hE0 hu
    obtain ⟨h0, h1, h2, h3, hHi, hHo⟩ := hA u hu e he
    have hz8 : (xZ t n (itN (rTx t n) u s2)).1 ≤ 8 := rSize_le
    have hy8 : (xY t n (itN (rTx t n) u s2)).1 ≤ 8 := rSize_le
    rcases pk_ix i0 (n := (xZ t n (itN (rTx t n) u s2)).1) (by omega) with hi | hi | ⟨i, hi, rfl⟩
    · skip
      show j_V g κ 0 0 0 [(0, .ref x0), (1, .int (nI u)), (2, .int i0), (3, .int x)] [] ([(x0, .inr (5, [.ref tw, .ref r0, .ref tk, .ref m0, .ref ha, .int (nI cnt), .int (b2 blk), .int pl, .ref tn, .ref bn, .ref w0])), (tk, .inr (3, [.ref kb, .int (nI n)])), (kb, .inl (aB g, 2000, .inl (bf t))), (ha, .inl (aQ g, 12, .inr (.inr (.inr (.inr (fun j => some (xa j)))))))] ++ txs g xa xb y f)
      refine j_aload_n (pc := 0) C d_Dsk_input_0 rfl 0 rfl ?_
      refine j_iload_n (pc := 1) C d_Dsk_input_1 rfl 1 rfl ?_
      refine j_callV (pc := 2) (As := [.int (nI u)]) (rest := []) (wc := [(x0, .inr (5, [.ref tw, .ref r0, .ref tk, .ref m0, .ref ha, .int (nI cnt), .int (b2 blk), .int pl, .ref tn, .ref bn, .ref w0]))]) (wr := [(tk, .inr (3, [.ref kb, .int (nI n)])), (kb, .inl (aB g, 2000, .inl (bf t))), (ha, .inl (aQ g, 12, .inr (.inr (.inr (.inr (fun j => some (xa j)))))))] ++ txs g xa xb y f) C (c_Dsk_hasTransaction (kl κ) g x0 tw tk r0 m0 ha tn bn w0 cnt blk pl (nI u) (by omega)) Y_Dsk_hasTransaction ml_Dsk_138 im_Dsk_hasTransaction sl_Dsk_hasTransaction rfl ⟨by decide, by decide⟩ rfl (ci := 5) (q0 := 0) rfl rfl rfl (Nat.le_of_ble_eq_true rfl) (by exact j_Sb.app (a := [(x0, .inr (5, [.ref tw, .ref r0, .ref tk, .ref m0, .ref ha, .int (nI cnt), .int (b2 blk), .int pl, .ref tn, .ref bn, .ref w0])), (tk, .inr (3, [.ref kb, .int (nI n)])), (kb, .inl (aB g, 2000, .inl (bf t))), (ha, .inl (aQ g, 12, .inr (.inr (.inr (.inr (fun j => some (xa j)))))))]) (b := [(x0, .inr (5, [.ref tw, .ref r0, .ref tk, .ref m0, .ref ha, .int (nI cnt), .int (b2 blk), .int pl, .ref tn, .ref bn, .ref w0])), (tk, .inr (3, [.ref kb, .int (nI n)])), (kb, .inl (aB g, 2000, .inl (bf t))), (ha, .inl (aQ g, 12, .inr (.inr (.inr (.inr (fun j => some (xa j)))))))]) (j_sb [0, 1, 2, 3] rfl rfl) (txs g xa xb y f)) rfl d_Dsk_input_2 (fun r w1 hO => ?_)
      obtain ⟨rfl, rfl⟩ := hO
      show j_V g κ 0 0 5 [(0, .ref x0), (1, .int (nI u)), (2, .int i0), (3, .int x)] [.int (if 0 ≤ nI u ∧ nI u < nI cnt then (1 : Int32) else 0)] ([(x0, .inr (5, [.ref tw, .ref r0, .ref tk, .ref m0, .ref ha, .int (nI cnt), .int (b2 blk), .int pl, .ref tn, .ref bn, .ref w0])), (tk, .inr (3, [.ref kb, .int (nI n)])), (kb, .inl (aB g, 2000, .inl (bf t))), (ha, .inl (aQ g, 12, .inr (.inr (.inr (.inr (fun j => some (xa j)))))))] ++ txs g xa xb y f)
      refine j_if_eqB (pc := 5) (tgt := 25) C d_Dsk_input_5 rfl (fun c5 => ?_) (fun c5 => ?_)
      · skip
        exact absurd ⟨nI_pos' (by omega), nI_lt hu (by omega)⟩ c5
      · skip
        refine j_iload_n (pc := 8) C d_Dsk_input_8 rfl 2 rfl ?_
        refine j_if_lt (pc := 9) (tgt := 25) C d_Dsk_input_9 rfl (fun c9 => ?_) (fun c9 => ?_)
        · skip
          refine j_ldc2 (pc := 25) C k_Dsk_132 d_Dsk_input_25 ?_
          exact hR.2.1 _ _ _ _ d_Dsk_input_28 rfl (⟨by first | (exfalso; omega) | rw [inR_neg hu] | rw [inR_big hu] | (rw [inR_1 hu (by omega), if_neg (fun z => nlt0 (by assumption) z.1)]) | (rw [inR_1 hu (by omega), if_neg (fun z => nle (by assumption) z.2)]) | (rw [inR_in hu (by omega) hi (by omega)]; unfold inV; first | rw [sel_neg hq] | rw [sel_big hq] | (rw [g2, g1]; rfl)), rfl⟩)
        · skip
          refine j_iload_n (pc := 12) C d_Dsk_input_12 rfl 2 rfl ?_
          refine j_aload_n (pc := 13) C d_Dsk_input_13 rfl 0 rfl ?_
          refine j_get (pc := 14) C F_Dsk_38 0 rfl rfl d_Dsk_input_14 ?_
          refine j_iload_n (pc := 17) C d_Dsk_input_17 rfl 1 rfl ?_
          refine j_aaldN (pc := 18) (b := xa u) C 3 2 rfl rfl (by omega) (by omega) rfl d_Dsk_input_18 ?_
          refine j_getM (pc := 19) C F_Dsk_143 (List.mem_append_right _ (txs_mem (u := u) (by omega) txc_0)) rfl d_Dsk_input_19 ?_
          refine j_rwi (y := nI ((xZ t n (itN (rTx t n) u s2)).1)) (h2) ?_
          refine j_icmp_lt (pc := 22) (tgt := 29) C d_Dsk_input_22 rfl (fun c22 => ?_) (fun c22 => ?_)
          · skip
            first | exact absurd hi c9 | exact absurd c22 (nle hi)
          · skip
            refine j_ldc2 (pc := 25) C k_Dsk_132 d_Dsk_input_25 ?_
            exact hR.2.1 _ _ _ _ d_Dsk_input_28 rfl (⟨by first | (exfalso; omega) | rw [inR_neg hu] | rw [inR_big hu] | (rw [inR_1 hu (by omega), if_neg (fun z => nlt0 (by assumption) z.1)]) | (rw [inR_1 hu (by omega), if_neg (fun z => nle (by assumption) z.2)]) | (rw [inR_in hu (by omega) hi (by omega)]; unfold inV; first | rw [sel_neg hq] | rw [sel_big hq] | (rw [g2, g1]; rfl)), rfl⟩)
    · skip
      show j_V g κ 0 0 0 [(0, .ref x0), (1, .int (nI u)), (2, .int i0), (3, .int x)] [] ([(x0, .inr (5, [.ref tw, .ref r0, .ref tk, .ref m0, .ref ha, .int (nI cnt), .int (b2 blk), .int pl, .ref tn, .ref bn, .ref w0])), (tk, .inr (3, [.ref kb, .int (nI n)])), (kb, .inl (aB g, 2000, .inl (bf t))), (ha, .inl (aQ g, 12, .inr (.inr (.inr (.inr (fun j => some (xa j)))))))] ++ txs g xa xb y f)
      refine j_aload_n (pc := 0) C d_Dsk_input_0 rfl 0 rfl ?_
      refine j_iload_n (pc := 1) C d_Dsk_input_1 rfl 1 rfl ?_
      refine j_callV (pc := 2) (As := [.int (nI u)]) (rest := []) (wc := [(x0, .inr (5, [.ref tw, .ref r0, .ref tk, .ref m0, .ref ha, .int (nI cnt), .int (b2 blk), .int pl, .ref tn, .ref bn, .ref w0]))]) (wr := [(tk, .inr (3, [.ref kb, .int (nI n)])), (kb, .inl (aB g, 2000, .inl (bf t))), (ha, .inl (aQ g, 12, .inr (.inr (.inr (.inr (fun j => some (xa j)))))))] ++ txs g xa xb y f) C (c_Dsk_hasTransaction (kl κ) g x0 tw tk r0 m0 ha tn bn w0 cnt blk pl (nI u) (by omega)) Y_Dsk_hasTransaction ml_Dsk_138 im_Dsk_hasTransaction sl_Dsk_hasTransaction rfl ⟨by decide, by decide⟩ rfl (ci := 5) (q0 := 0) rfl rfl rfl (Nat.le_of_ble_eq_true rfl) (by exact j_Sb.app (a := [(x0, .inr (5, [.ref tw, .ref r0, .ref tk, .ref m0, .ref ha, .int (nI cnt), .int (b2 blk), .int pl, .ref tn, .ref bn, .ref w0])), (tk, .inr (3, [.ref kb, .int (nI n)])), (kb, .inl (aB g, 2000, .inl (bf t))), (ha, .inl (aQ g, 12, .inr (.inr (.inr (.inr (fun j => some (xa j)))))))]) (b := [(x0, .inr (5, [.ref tw, .ref r0, .ref tk, .ref m0, .ref ha, .int (nI cnt), .int (b2 blk), .int pl, .ref tn, .ref bn, .ref w0])), (tk, .inr (3, [.ref kb, .int (nI n)])), (kb, .inl (aB g, 2000, .inl (bf t))), (ha, .inl (aQ g, 12, .inr (.inr (.inr (.inr (fun j => some (xa j)))))))]) (j_sb [0, 1, 2, 3] rfl rfl) (txs g xa xb y f)) rfl d_Dsk_input_2 (fun r w1 hO => ?_)
      obtain ⟨rfl, rfl⟩ := hO
      show j_V g κ 0 0 5 [(0, .ref x0), (1, .int (nI u)), (2, .int i0), (3, .int x)] [.int (if 0 ≤ nI u ∧ nI u < nI cnt then (1 : Int32) else 0)] ([(x0, .inr (5, [.ref tw, .ref r0, .ref tk, .ref m0, .ref ha, .int (nI cnt), .int (b2 blk), .int pl, .ref tn, .ref bn, .ref w0])), (tk, .inr (3, [.ref kb, .int (nI n)])), (kb, .inl (aB g, 2000, .inl (bf t))), (ha, .inl (aQ g, 12, .inr (.inr (.inr (.inr (fun j => some (xa j)))))))] ++ txs g xa xb y f)
      refine j_if_eqB (pc := 5) (tgt := 25) C d_Dsk_input_5 rfl (fun c5 => ?_) (fun c5 => ?_)
      · skip
        exact absurd ⟨nI_pos' (by omega), nI_lt hu (by omega)⟩ c5
      · skip
        refine j_iload_n (pc := 8) C d_Dsk_input_8 rfl 2 rfl ?_
        refine j_if_lt (pc := 9) (tgt := 25) C d_Dsk_input_9 rfl (fun c9 => ?_) (fun c9 => ?_)
        · skip
          refine j_ldc2 (pc := 25) C k_Dsk_132 d_Dsk_input_25 ?_
          exact hR.2.1 _ _ _ _ d_Dsk_input_28 rfl (⟨by first | (exfalso; omega) | rw [inR_neg hu] | rw [inR_big hu] | (rw [inR_1 hu (by omega), if_neg (fun z => nlt0 (by assumption) z.1)]) | (rw [inR_1 hu (by omega), if_neg (fun z => nle (by assumption) z.2)]) | (rw [inR_in hu (by omega) hi (by omega)]; unfold inV; first | rw [sel_neg hq] | rw [sel_big hq] | (rw [g2, g1]; rfl)), rfl⟩)
        · skip
          refine j_iload_n (pc := 12) C d_Dsk_input_12 rfl 2 rfl ?_
          refine j_aload_n (pc := 13) C d_Dsk_input_13 rfl 0 rfl ?_
          refine j_get (pc := 14) C F_Dsk_38 0 rfl rfl d_Dsk_input_14 ?_
          refine j_iload_n (pc := 17) C d_Dsk_input_17 rfl 1 rfl ?_
          refine j_aaldN (pc := 18) (b := xa u) C 3 2 rfl rfl (by omega) (by omega) rfl d_Dsk_input_18 ?_
          refine j_getM (pc := 19) C F_Dsk_143 (List.mem_append_right _ (txs_mem (u := u) (by omega) txc_0)) rfl d_Dsk_input_19 ?_
          refine j_rwi (y := nI ((xZ t n (itN (rTx t n) u s2)).1)) (h2) ?_
          refine j_icmp_lt (pc := 22) (tgt := 29) C d_Dsk_input_22 rfl (fun c22 => ?_) (fun c22 => ?_)
          · skip
            first | exact absurd hi c9 | exact absurd c22 (nle hi)
          · skip
            refine j_ldc2 (pc := 25) C k_Dsk_132 d_Dsk_input_25 ?_
            exact hR.2.1 _ _ _ _ d_Dsk_input_28 rfl (⟨by first | (exfalso; omega) | rw [inR_neg hu] | rw [inR_big hu] | (rw [inR_1 hu (by omega), if_neg (fun z => nlt0 (by assumption) z.1)]) | (rw [inR_1 hu (by omega), if_neg (fun z => nle (by assumption) z.2)]) | (rw [inR_in hu (by omega) hi (by omega)]; unfold inV; first | rw [sel_neg hq] | rw [sel_big hq] | (rw [g2, g1]; rfl)), rfl⟩)
    · skip
      obtain ⟨a1, q1, p1, g1, g2, g3, g4, g5, g6⟩ := in_st he hi
      obtain ⟨k1, k2, k3⟩ := hHi i hi p1 g3
      have hl200 : (inZ t n (xI t n (itN (rTx t n) u s2) i)).1 ≤ 200 := rSize_le
      rcases pk_ix x (n := 5) (by decide) with hq | hq | ⟨q, hq, rfl⟩
      · skip
        show j_V g κ 0 0 0 [(0, .ref x0), (1, .int (nI u)), (2, .int (nI i)), (3, .int x)] [] ([(x0, .inr (5, [.ref tw, .ref r0, .ref tk, .ref m0, .ref ha, .int (nI cnt), .int (b2 blk), .int pl, .ref tn, .ref bn, .ref w0])), (tk, .inr (3, [.ref kb, .int (nI n)])), (kb, .inl (aB g, 2000, .inl (bf t))), (ha, .inl (aQ g, 12, .inr (.inr (.inr (.inr (fun j => some (xa j)))))))] ++ txs g xa xb y f)
        refine j_aload_n (pc := 0) C d_Dsk_input_0 rfl 0 rfl ?_
        refine j_iload_n (pc := 1) C d_Dsk_input_1 rfl 1 rfl ?_
        refine j_callV (pc := 2) (As := [.int (nI u)]) (rest := []) (wc := [(x0, .inr (5, [.ref tw, .ref r0, .ref tk, .ref m0, .ref ha, .int (nI cnt), .int (b2 blk), .int pl, .ref tn, .ref bn, .ref w0]))]) (wr := [(tk, .inr (3, [.ref kb, .int (nI n)])), (kb, .inl (aB g, 2000, .inl (bf t))), (ha, .inl (aQ g, 12, .inr (.inr (.inr (.inr (fun j => some (xa j)))))))] ++ txs g xa xb y f) C (c_Dsk_hasTransaction (kl κ) g x0 tw tk r0 m0 ha tn bn w0 cnt blk pl (nI u) (by omega)) Y_Dsk_hasTransaction ml_Dsk_138 im_Dsk_hasTransaction sl_Dsk_hasTransaction rfl ⟨by decide, by decide⟩ rfl (ci := 5) (q0 := 0) rfl rfl rfl (Nat.le_of_ble_eq_true rfl) (by exact j_Sb.app (a := [(x0, .inr (5, [.ref tw, .ref r0, .ref tk, .ref m0, .ref ha, .int (nI cnt), .int (b2 blk), .int pl, .ref tn, .ref bn, .ref w0])), (tk, .inr (3, [.ref kb, .int (nI n)])), (kb, .inl (aB g, 2000, .inl (bf t))), (ha, .inl (aQ g, 12, .inr (.inr (.inr (.inr (fun j => some (xa j)))))))]) (b := [(x0, .inr (5, [.ref tw, .ref r0, .ref tk, .ref m0, .ref ha, .int (nI cnt), .int (b2 blk), .int pl, .ref tn, .ref bn, .ref w0])), (tk, .inr (3, [.ref kb, .int (nI n)])), (kb, .inl (aB g, 2000, .inl (bf t))), (ha, .inl (aQ g, 12, .inr (.inr (.inr (.inr (fun j => some (xa j)))))))]) (j_sb [0, 1, 2, 3] rfl rfl) (txs g xa xb y f)) rfl d_Dsk_input_2 (fun r w1 hO => ?_)
        obtain ⟨rfl, rfl⟩ := hO
        show j_V g κ 0 0 5 [(0, .ref x0), (1, .int (nI u)), (2, .int (nI i)), (3, .int x)] [.int (if 0 ≤ nI u ∧ nI u < nI cnt then (1 : Int32) else 0)] ([(x0, .inr (5, [.ref tw, .ref r0, .ref tk, .ref m0, .ref ha, .int (nI cnt), .int (b2 blk), .int pl, .ref tn, .ref bn, .ref w0])), (tk, .inr (3, [.ref kb, .int (nI n)])), (kb, .inl (aB g, 2000, .inl (bf t))), (ha, .inl (aQ g, 12, .inr (.inr (.inr (.inr (fun j => some (xa j)))))))] ++ txs g xa xb y f)
        refine j_if_eqB (pc := 5) (tgt := 25) C d_Dsk_input_5 rfl (fun c5 => ?_) (fun c5 => ?_)
        · skip
          exact absurd ⟨nI_pos' (by omega), nI_lt hu (by omega)⟩ c5
        · skip
          refine j_iload_n (pc := 8) C d_Dsk_input_8 rfl 2 rfl ?_
          refine j_if_ltN (pc := 9) (tgt := 25) C (by omega) d_Dsk_input_9 rfl ?_
          refine j_iload_n (pc := 12) C d_Dsk_input_12 rfl 2 rfl ?_
          refine j_aload_n (pc := 13) C d_Dsk_input_13 rfl 0 rfl ?_
          refine j_get (pc := 14) C F_Dsk_38 0 rfl rfl d_Dsk_input_14 ?_
          refine j_iload_n (pc := 17) C d_Dsk_input_17 rfl 1 rfl ?_
          refine j_aaldN (pc := 18) (b := xa u) C 3 2 rfl rfl (by omega) (by omega) rfl d_Dsk_input_18 ?_
          refine j_getM (pc := 19) C F_Dsk_143 (List.mem_append_right _ (txs_mem (u := u) (by omega) txc_0)) rfl d_Dsk_input_19 ?_
          refine j_rwi (y := nI ((xZ t n (itN (rTx t n) u s2)).1)) (h2) ?_
          refine j_icmp_ltN (pc := 22) (tgt := 29) C (by omega) (by omega) d_Dsk_input_22 rfl (fun c22 => ?_) (fun c22 => ?_)
          · skip
            refine j_aload_n (pc := 29) C d_Dsk_input_29 rfl 0 rfl ?_
            refine j_get (pc := 30) C F_Dsk_38 0 rfl rfl d_Dsk_input_30 ?_
            refine j_iload_n (pc := 33) C d_Dsk_input_33 rfl 1 rfl ?_
            refine j_aaldN (pc := 34) (b := xa u) C 3 2 rfl rfl (by omega) (by omega) rfl d_Dsk_input_34 ?_
            refine j_astore (pc := 35) (lv' := [(4, .ref (xa u)), (0, .ref x0), (1, .int (nI u)), (2, .int (nI i)), (3, .int x)]) C d_Dsk_input_35 (by decide) rfl ?_
            refine j_aload (pc := 37) C d_Dsk_input_37 0 rfl ?_
            refine j_getM (pc := 39) C F_Dsk_152 (List.mem_append_right _ (txs_mem (u := u) (by omega) txc_0)) rfl d_Dsk_input_39 ?_
            refine j_iload_n (pc := 42) C d_Dsk_input_42 rfl 3 rfl ?_
            refine j_ialdMN (pc := 43) C 1 (List.mem_append_right _ (txs_mem (u := u) (by omega) (txc_k 1 (by decide) (by decide)))) rfl (by omega) (by omega) d_Dsk_input_43 ?_
            refine j_rwi (y := nI a1) (by rw [k1]; exact congrArg (fun z => nI (pos z)) g1) ?_
            refine j_istore (pc := 44) (lv' := [(5, .int (nI a1)), (4, .ref (xa u)), (0, .ref x0), (1, .int (nI u)), (2, .int (nI i)), (3, .int x)]) C d_Dsk_input_44 (by decide) rfl ?_
            refine j_aload (pc := 46) C d_Dsk_input_46 1 rfl ?_
            refine j_getM (pc := 48) C F_Dsk_156 (List.mem_append_right _ (txs_mem (u := u) (by omega) txc_0)) rfl d_Dsk_input_48 ?_
            refine j_iload_n (pc := 51) C d_Dsk_input_51 rfl 4 rfl ?_
            refine j_ialdMN (pc := 52) C 1 (List.mem_append_right _ (txs_mem (u := u) (by omega) (txc_k 2 (by decide) (by decide)))) rfl (by omega) (by omega) d_Dsk_input_52 ?_
            refine j_rwi (y := nI q1) (by rw [k2]; exact congrArg (fun z => nI (pos z)) g2) ?_
            refine j_istore (pc := 53) (lv' := [(6, .int (nI q1)), (5, .int (nI a1)), (4, .ref (xa u)), (0, .ref x0), (1, .int (nI u)), (2, .int (nI i)), (3, .int x)]) C d_Dsk_input_53 (by decide) rfl ?_
            refine j_aload (pc := 55) C d_Dsk_input_55 2 rfl ?_
            refine j_getM (pc := 57) C F_Dsk_159 (List.mem_append_right _ (txs_mem (u := u) (by omega) txc_0)) rfl d_Dsk_input_57 ?_
            refine j_iload_n (pc := 60) C d_Dsk_input_60 rfl 5 rfl ?_
            refine j_ialdMN (pc := 61) C 1 (List.mem_append_right _ (txs_mem (u := u) (by omega) (txc_k 3 (by decide) (by decide)))) rfl (by omega) (by omega) d_Dsk_input_61 ?_
            refine j_rwi (y := nI ((inZ t n (xI t n (itN (rTx t n) u s2) i)).1)) (k3) ?_
            refine j_istore (pc := 62) (lv' := [(7, .int (nI ((inZ t n (xI t n (itN (rTx t n) u s2) i)).1))), (6, .int (nI q1)), (5, .int (nI a1)), (4, .ref (xa u)), (0, .ref x0), (1, .int (nI u)), (2, .int (nI i)), (3, .int x)]) C d_Dsk_input_62 (by decide) rfl ?_
            refine j_iload_n (pc := 64) C d_Dsk_input_64 rfl 7 rfl ?_
            refine j_tableOut (pc := 65) (tgt := 140) C d_Dsk_input_65 (Or.inl (ts_neg hq)) (by decide) ?_
            refine j_ldc2 (pc := 140) C k_Dsk_132 d_Dsk_input_140 ?_
            exact hR.2.1 _ _ _ _ d_Dsk_input_143 rfl (⟨by first | (exfalso; omega) | rw [inR_neg hu] | rw [inR_big hu] | (rw [inR_1 hu (by omega), if_neg (fun z => nlt0 (by assumption) z.1)]) | (rw [inR_1 hu (by omega), if_neg (fun z => nle (by assumption) z.2)]) | (rw [inR_in hu (by omega) hi (by omega)]; unfold inV; first | rw [sel_neg hq] | rw [sel_big hq] | (rw [g2, g1]; rfl)), rfl⟩)
          · skip
            refine j_ldc2 (pc := 25) C k_Dsk_132 d_Dsk_input_25 ?_
            exact hR.2.1 _ _ _ _ d_Dsk_input_28 rfl (⟨by first | (exfalso; omega) | rw [inR_neg hu] | rw [inR_big hu] | (rw [inR_1 hu (by omega), if_neg (fun z => nlt0 (by assumption) z.1)]) | (rw [inR_1 hu (by omega), if_neg (fun z => nle (by assumption) z.2)]) | (rw [inR_in hu (by omega) hi (by omega)]; unfold inV; first | rw [sel_neg hq] | rw [sel_big hq] | (rw [g2, g1]; rfl)), rfl⟩)
      · skip
        show j_V g κ 0 0 0 [(0, .ref x0), (1, .int (nI u)), (2, .int (nI i)), (3, .int x)] [] ([(x0, .inr (5, [.ref tw, .ref r0, .ref tk, .ref m0, .ref ha, .int (nI cnt), .int (b2 blk), .int pl, .ref tn, .ref bn, .ref w0])), (tk, .inr (3, [.ref kb, .int (nI n)])), (kb, .inl (aB g, 2000, .inl (bf t))), (ha, .inl (aQ g, 12, .inr (.inr (.inr (.inr (fun j => some (xa j)))))))] ++ txs g xa xb y f)
        refine j_aload_n (pc := 0) C d_Dsk_input_0 rfl 0 rfl ?_
        refine j_iload_n (pc := 1) C d_Dsk_input_1 rfl 1 rfl ?_
        refine j_callV (pc := 2) (As := [.int (nI u)]) (rest := []) (wc := [(x0, .inr (5, [.ref tw, .ref r0, .ref tk, .ref m0, .ref ha, .int (nI cnt), .int (b2 blk), .int pl, .ref tn, .ref bn, .ref w0]))]) (wr := [(tk, .inr (3, [.ref kb, .int (nI n)])), (kb, .inl (aB g, 2000, .inl (bf t))), (ha, .inl (aQ g, 12, .inr (.inr (.inr (.inr (fun j => some (xa j)))))))] ++ txs g xa xb y f) C (c_Dsk_hasTransaction (kl κ) g x0 tw tk r0 m0 ha tn bn w0 cnt blk pl (nI u) (by omega)) Y_Dsk_hasTransaction ml_Dsk_138 im_Dsk_hasTransaction sl_Dsk_hasTransaction rfl ⟨by decide, by decide⟩ rfl (ci := 5) (q0 := 0) rfl rfl rfl (Nat.le_of_ble_eq_true rfl) (by exact j_Sb.app (a := [(x0, .inr (5, [.ref tw, .ref r0, .ref tk, .ref m0, .ref ha, .int (nI cnt), .int (b2 blk), .int pl, .ref tn, .ref bn, .ref w0])), (tk, .inr (3, [.ref kb, .int (nI n)])), (kb, .inl (aB g, 2000, .inl (bf t))), (ha, .inl (aQ g, 12, .inr (.inr (.inr (.inr (fun j => some (xa j)))))))]) (b := [(x0, .inr (5, [.ref tw, .ref r0, .ref tk, .ref m0, .ref ha, .int (nI cnt), .int (b2 blk), .int pl, .ref tn, .ref bn, .ref w0])), (tk, .inr (3, [.ref kb, .int (nI n)])), (kb, .inl (aB g, 2000, .inl (bf t))), (ha, .inl (aQ g, 12, .inr (.inr (.inr (.inr (fun j => some (xa j)))))))]) (j_sb [0, 1, 2, 3] rfl rfl) (txs g xa xb y f)) rfl d_Dsk_input_2 (fun r w1 hO => ?_)
        obtain ⟨rfl, rfl⟩ := hO
        show j_V g κ 0 0 5 [(0, .ref x0), (1, .int (nI u)), (2, .int (nI i)), (3, .int x)] [.int (if 0 ≤ nI u ∧ nI u < nI cnt then (1 : Int32) else 0)] ([(x0, .inr (5, [.ref tw, .ref r0, .ref tk, .ref m0, .ref ha, .int (nI cnt), .int (b2 blk), .int pl, .ref tn, .ref bn, .ref w0])), (tk, .inr (3, [.ref kb, .int (nI n)])), (kb, .inl (aB g, 2000, .inl (bf t))), (ha, .inl (aQ g, 12, .inr (.inr (.inr (.inr (fun j => some (xa j)))))))] ++ txs g xa xb y f)
        refine j_if_eqB (pc := 5) (tgt := 25) C d_Dsk_input_5 rfl (fun c5 => ?_) (fun c5 => ?_)
        · skip
          exact absurd ⟨nI_pos' (by omega), nI_lt hu (by omega)⟩ c5
        · skip
          refine j_iload_n (pc := 8) C d_Dsk_input_8 rfl 2 rfl ?_
          refine j_if_ltN (pc := 9) (tgt := 25) C (by omega) d_Dsk_input_9 rfl ?_
          refine j_iload_n (pc := 12) C d_Dsk_input_12 rfl 2 rfl ?_
          refine j_aload_n (pc := 13) C d_Dsk_input_13 rfl 0 rfl ?_
          refine j_get (pc := 14) C F_Dsk_38 0 rfl rfl d_Dsk_input_14 ?_
          refine j_iload_n (pc := 17) C d_Dsk_input_17 rfl 1 rfl ?_
          refine j_aaldN (pc := 18) (b := xa u) C 3 2 rfl rfl (by omega) (by omega) rfl d_Dsk_input_18 ?_
          refine j_getM (pc := 19) C F_Dsk_143 (List.mem_append_right _ (txs_mem (u := u) (by omega) txc_0)) rfl d_Dsk_input_19 ?_
          refine j_rwi (y := nI ((xZ t n (itN (rTx t n) u s2)).1)) (h2) ?_
          refine j_icmp_ltN (pc := 22) (tgt := 29) C (by omega) (by omega) d_Dsk_input_22 rfl (fun c22 => ?_) (fun c22 => ?_)
          · skip
            refine j_aload_n (pc := 29) C d_Dsk_input_29 rfl 0 rfl ?_
            refine j_get (pc := 30) C F_Dsk_38 0 rfl rfl d_Dsk_input_30 ?_
            refine j_iload_n (pc := 33) C d_Dsk_input_33 rfl 1 rfl ?_
            refine j_aaldN (pc := 34) (b := xa u) C 3 2 rfl rfl (by omega) (by omega) rfl d_Dsk_input_34 ?_
            refine j_astore (pc := 35) (lv' := [(4, .ref (xa u)), (0, .ref x0), (1, .int (nI u)), (2, .int (nI i)), (3, .int x)]) C d_Dsk_input_35 (by decide) rfl ?_
            refine j_aload (pc := 37) C d_Dsk_input_37 0 rfl ?_
            refine j_getM (pc := 39) C F_Dsk_152 (List.mem_append_right _ (txs_mem (u := u) (by omega) txc_0)) rfl d_Dsk_input_39 ?_
            refine j_iload_n (pc := 42) C d_Dsk_input_42 rfl 3 rfl ?_
            refine j_ialdMN (pc := 43) C 1 (List.mem_append_right _ (txs_mem (u := u) (by omega) (txc_k 1 (by decide) (by decide)))) rfl (by omega) (by omega) d_Dsk_input_43 ?_
            refine j_rwi (y := nI a1) (by rw [k1]; exact congrArg (fun z => nI (pos z)) g1) ?_
            refine j_istore (pc := 44) (lv' := [(5, .int (nI a1)), (4, .ref (xa u)), (0, .ref x0), (1, .int (nI u)), (2, .int (nI i)), (3, .int x)]) C d_Dsk_input_44 (by decide) rfl ?_
            refine j_aload (pc := 46) C d_Dsk_input_46 1 rfl ?_
            refine j_getM (pc := 48) C F_Dsk_156 (List.mem_append_right _ (txs_mem (u := u) (by omega) txc_0)) rfl d_Dsk_input_48 ?_
            refine j_iload_n (pc := 51) C d_Dsk_input_51 rfl 4 rfl ?_
            refine j_ialdMN (pc := 52) C 1 (List.mem_append_right _ (txs_mem (u := u) (by omega) (txc_k 2 (by decide) (by decide)))) rfl (by omega) (by omega) d_Dsk_input_52 ?_
            refine j_rwi (y := nI q1) (by rw [k2]; exact congrArg (fun z => nI (pos z)) g2) ?_
            refine j_istore (pc := 53) (lv' := [(6, .int (nI q1)), (5, .int (nI a1)), (4, .ref (xa u)), (0, .ref x0), (1, .int (nI u)), (2, .int (nI i)), (3, .int x)]) C d_Dsk_input_53 (by decide) rfl ?_
            refine j_aload (pc := 55) C d_Dsk_input_55 2 rfl ?_
            refine j_getM (pc := 57) C F_Dsk_159 (List.mem_append_right _ (txs_mem (u := u) (by omega) txc_0)) rfl d_Dsk_input_57 ?_
            refine j_iload_n (pc := 60) C d_Dsk_input_60 rfl 5 rfl ?_
            refine j_ialdMN (pc := 61) C 1 (List.mem_append_right _ (txs_mem (u := u) (by omega) (txc_k 3 (by decide) (by decide)))) rfl (by omega) (by omega) d_Dsk_input_61 ?_
            refine j_rwi (y := nI ((inZ t n (xI t n (itN (rTx t n) u s2) i)).1)) (k3) ?_
            refine j_istore (pc := 62) (lv' := [(7, .int (nI ((inZ t n (xI t n (itN (rTx t n) u s2) i)).1))), (6, .int (nI q1)), (5, .int (nI a1)), (4, .ref (xa u)), (0, .ref x0), (1, .int (nI u)), (2, .int (nI i)), (3, .int x)]) C d_Dsk_input_62 (by decide) rfl ?_
            refine j_iload_n (pc := 64) C d_Dsk_input_64 rfl 7 rfl ?_
            refine j_tableOut (pc := 65) (tgt := 140) C d_Dsk_input_65 (Or.inr (ts_big (k := 4) (by decide) hq)) (by decide) ?_
            refine j_ldc2 (pc := 140) C k_Dsk_132 d_Dsk_input_140 ?_
            exact hR.2.1 _ _ _ _ d_Dsk_input_143 rfl (⟨by first | (exfalso; omega) | rw [inR_neg hu] | rw [inR_big hu] | (rw [inR_1 hu (by omega), if_neg (fun z => nlt0 (by assumption) z.1)]) | (rw [inR_1 hu (by omega), if_neg (fun z => nle (by assumption) z.2)]) | (rw [inR_in hu (by omega) hi (by omega)]; unfold inV; first | rw [sel_neg hq] | rw [sel_big hq] | (rw [g2, g1]; rfl)), rfl⟩)
          · skip
            refine j_ldc2 (pc := 25) C k_Dsk_132 d_Dsk_input_25 ?_
            exact hR.2.1 _ _ _ _ d_Dsk_input_28 rfl (⟨by first | (exfalso; omega) | rw [inR_neg hu] | rw [inR_big hu] | (rw [inR_1 hu (by omega), if_neg (fun z => nlt0 (by assumption) z.1)]) | (rw [inR_1 hu (by omega), if_neg (fun z => nle (by assumption) z.2)]) | (rw [inR_in hu (by omega) hi (by omega)]; unfold inV; first | rw [sel_neg hq] | rw [sel_big hq] | (rw [g2, g1]; rfl)), rfl⟩)
      · skip
        rcases (by omega : q = 0 ∨ q = 1 ∨ q = 2 ∨ q = 3 ∨ q = 4) with rfl | rfl | rfl | rfl | rfl
        · skip
          show j_V g κ 0 0 0 [(0, .ref x0), (1, .int (nI u)), (2, .int (nI i)), (3, .int (nI 0))] [] ([(x0, .inr (5, [.ref tw, .ref r0, .ref tk, .ref m0, .ref ha, .int (nI cnt), .int (b2 blk), .int pl, .ref tn, .ref bn, .ref w0])), (tk, .inr (3, [.ref kb, .int (nI n)])), (kb, .inl (aB g, 2000, .inl (bf t))), (ha, .inl (aQ g, 12, .inr (.inr (.inr (.inr (fun j => some (xa j)))))))] ++ txs g xa xb y f)
          refine j_aload_n (pc := 0) C d_Dsk_input_0 rfl 0 rfl ?_
          refine j_iload_n (pc := 1) C d_Dsk_input_1 rfl 1 rfl ?_
          refine j_callV (pc := 2) (As := [.int (nI u)]) (rest := []) (wc := [(x0, .inr (5, [.ref tw, .ref r0, .ref tk, .ref m0, .ref ha, .int (nI cnt), .int (b2 blk), .int pl, .ref tn, .ref bn, .ref w0]))]) (wr := [(tk, .inr (3, [.ref kb, .int (nI n)])), (kb, .inl (aB g, 2000, .inl (bf t))), (ha, .inl (aQ g, 12, .inr (.inr (.inr (.inr (fun j => some (xa j)))))))] ++ txs g xa xb y f) C (c_Dsk_hasTransaction (kl κ) g x0 tw tk r0 m0 ha tn bn w0 cnt blk pl (nI u) (by omega)) Y_Dsk_hasTransaction ml_Dsk_138 im_Dsk_hasTransaction sl_Dsk_hasTransaction rfl ⟨by decide, by decide⟩ rfl (ci := 5) (q0 := 0) rfl rfl rfl (Nat.le_of_ble_eq_true rfl) (by exact j_Sb.app (a := [(x0, .inr (5, [.ref tw, .ref r0, .ref tk, .ref m0, .ref ha, .int (nI cnt), .int (b2 blk), .int pl, .ref tn, .ref bn, .ref w0])), (tk, .inr (3, [.ref kb, .int (nI n)])), (kb, .inl (aB g, 2000, .inl (bf t))), (ha, .inl (aQ g, 12, .inr (.inr (.inr (.inr (fun j => some (xa j)))))))]) (b := [(x0, .inr (5, [.ref tw, .ref r0, .ref tk, .ref m0, .ref ha, .int (nI cnt), .int (b2 blk), .int pl, .ref tn, .ref bn, .ref w0])), (tk, .inr (3, [.ref kb, .int (nI n)])), (kb, .inl (aB g, 2000, .inl (bf t))), (ha, .inl (aQ g, 12, .inr (.inr (.inr (.inr (fun j => some (xa j)))))))]) (j_sb [0, 1, 2, 3] rfl rfl) (txs g xa xb y f)) rfl d_Dsk_input_2 (fun r w1 hO => ?_)
          obtain ⟨rfl, rfl⟩ := hO
          show j_V g κ 0 0 5 [(0, .ref x0), (1, .int (nI u)), (2, .int (nI i)), (3, .int (nI 0))] [.int (if 0 ≤ nI u ∧ nI u < nI cnt then (1 : Int32) else 0)] ([(x0, .inr (5, [.ref tw, .ref r0, .ref tk, .ref m0, .ref ha, .int (nI cnt), .int (b2 blk), .int pl, .ref tn, .ref bn, .ref w0])), (tk, .inr (3, [.ref kb, .int (nI n)])), (kb, .inl (aB g, 2000, .inl (bf t))), (ha, .inl (aQ g, 12, .inr (.inr (.inr (.inr (fun j => some (xa j)))))))] ++ txs g xa xb y f)
          refine j_if_eqB (pc := 5) (tgt := 25) C d_Dsk_input_5 rfl (fun c5 => ?_) (fun c5 => ?_)
          · skip
            exact absurd ⟨nI_pos' (by omega), nI_lt hu (by omega)⟩ c5
          · skip
            refine j_iload_n (pc := 8) C d_Dsk_input_8 rfl 2 rfl ?_
            refine j_if_ltN (pc := 9) (tgt := 25) C (by omega) d_Dsk_input_9 rfl ?_
            refine j_iload_n (pc := 12) C d_Dsk_input_12 rfl 2 rfl ?_
            refine j_aload_n (pc := 13) C d_Dsk_input_13 rfl 0 rfl ?_
            refine j_get (pc := 14) C F_Dsk_38 0 rfl rfl d_Dsk_input_14 ?_
            refine j_iload_n (pc := 17) C d_Dsk_input_17 rfl 1 rfl ?_
            refine j_aaldN (pc := 18) (b := xa u) C 3 2 rfl rfl (by omega) (by omega) rfl d_Dsk_input_18 ?_
            refine j_getM (pc := 19) C F_Dsk_143 (List.mem_append_right _ (txs_mem (u := u) (by omega) txc_0)) rfl d_Dsk_input_19 ?_
            refine j_rwi (y := nI ((xZ t n (itN (rTx t n) u s2)).1)) (h2) ?_
            refine j_icmp_ltN (pc := 22) (tgt := 29) C (by omega) (by omega) d_Dsk_input_22 rfl (fun c22 => ?_) (fun c22 => ?_)
            · skip
              refine j_aload_n (pc := 29) C d_Dsk_input_29 rfl 0 rfl ?_
              refine j_get (pc := 30) C F_Dsk_38 0 rfl rfl d_Dsk_input_30 ?_
              refine j_iload_n (pc := 33) C d_Dsk_input_33 rfl 1 rfl ?_
              refine j_aaldN (pc := 34) (b := xa u) C 3 2 rfl rfl (by omega) (by omega) rfl d_Dsk_input_34 ?_
              refine j_astore (pc := 35) (lv' := [(4, .ref (xa u)), (0, .ref x0), (1, .int (nI u)), (2, .int (nI i)), (3, .int (nI 0))]) C d_Dsk_input_35 (by decide) rfl ?_
              refine j_aload (pc := 37) C d_Dsk_input_37 0 rfl ?_
              refine j_getM (pc := 39) C F_Dsk_152 (List.mem_append_right _ (txs_mem (u := u) (by omega) txc_0)) rfl d_Dsk_input_39 ?_
              refine j_iload_n (pc := 42) C d_Dsk_input_42 rfl 3 rfl ?_
              refine j_ialdMN (pc := 43) C 1 (List.mem_append_right _ (txs_mem (u := u) (by omega) (txc_k 1 (by decide) (by decide)))) rfl (by omega) (by omega) d_Dsk_input_43 ?_
              refine j_rwi (y := nI a1) (by rw [k1]; exact congrArg (fun z => nI (pos z)) g1) ?_
              refine j_istore (pc := 44) (lv' := [(5, .int (nI a1)), (4, .ref (xa u)), (0, .ref x0), (1, .int (nI u)), (2, .int (nI i)), (3, .int (nI 0))]) C d_Dsk_input_44 (by decide) rfl ?_
              refine j_aload (pc := 46) C d_Dsk_input_46 1 rfl ?_
              refine j_getM (pc := 48) C F_Dsk_156 (List.mem_append_right _ (txs_mem (u := u) (by omega) txc_0)) rfl d_Dsk_input_48 ?_
              refine j_iload_n (pc := 51) C d_Dsk_input_51 rfl 4 rfl ?_
              refine j_ialdMN (pc := 52) C 1 (List.mem_append_right _ (txs_mem (u := u) (by omega) (txc_k 2 (by decide) (by decide)))) rfl (by omega) (by omega) d_Dsk_input_52 ?_
              refine j_rwi (y := nI q1) (by rw [k2]; exact congrArg (fun z => nI (pos z)) g2) ?_
              refine j_istore (pc := 53) (lv' := [(6, .int (nI q1)), (5, .int (nI a1)), (4, .ref (xa u)), (0, .ref x0), (1, .int (nI u)), (2, .int (nI i)), (3, .int (nI 0))]) C d_Dsk_input_53 (by decide) rfl ?_
              refine j_aload (pc := 55) C d_Dsk_input_55 2 rfl ?_
              refine j_getM (pc := 57) C F_Dsk_159 (List.mem_append_right _ (txs_mem (u := u) (by omega) txc_0)) rfl d_Dsk_input_57 ?_
              refine j_iload_n (pc := 60) C d_Dsk_input_60 rfl 5 rfl ?_
              refine j_ialdMN (pc := 61) C 1 (List.mem_append_right _ (txs_mem (u := u) (by omega) (txc_k 3 (by decide) (by decide)))) rfl (by omega) (by omega) d_Dsk_input_61 ?_
              refine j_rwi (y := nI ((inZ t n (xI t n (itN (rTx t n) u s2) i)).1)) (k3) ?_
              refine j_istore (pc := 62) (lv' := [(7, .int (nI ((inZ t n (xI t n (itN (rTx t n) u s2) i)).1))), (6, .int (nI q1)), (5, .int (nI a1)), (4, .ref (xa u)), (0, .ref x0), (1, .int (nI u)), (2, .int (nI i)), (3, .int (nI 0))]) C d_Dsk_input_62 (by decide) rfl ?_
              refine j_iload_n (pc := 64) C d_Dsk_input_64 rfl 7 rfl ?_
              refine j_tableIn (pc := 65) (tgt := 100) C d_Dsk_input_65 (by decide) (by decide) rfl (by decide) ?_
              refine j_iload (pc := 100) C d_Dsk_input_100 2 rfl ?_
              refine j_i2l (pc := 102) (v := lN a1) C d_Dsk_input_102 (nI_l (by omega)) ?_
              exact hR.2.1 _ _ _ _ d_Dsk_input_103 rfl (⟨by first | (exfalso; omega) | rw [inR_neg hu] | rw [inR_big hu] | (rw [inR_1 hu (by omega), if_neg (fun z => nlt0 (by assumption) z.1)]) | (rw [inR_1 hu (by omega), if_neg (fun z => nle (by assumption) z.2)]) | (rw [inR_in hu (by omega) hi (by omega)]; unfold inV; first | rw [sel_neg hq] | rw [sel_big hq] | (rw [g2, g1]; rfl)), rfl⟩)
            · skip
              refine j_ldc2 (pc := 25) C k_Dsk_132 d_Dsk_input_25 ?_
              exact hR.2.1 _ _ _ _ d_Dsk_input_28 rfl (⟨by first | (exfalso; omega) | rw [inR_neg hu] | rw [inR_big hu] | (rw [inR_1 hu (by omega), if_neg (fun z => nlt0 (by assumption) z.1)]) | (rw [inR_1 hu (by omega), if_neg (fun z => nle (by assumption) z.2)]) | (rw [inR_in hu (by omega) hi (by omega)]; unfold inV; first | rw [sel_neg hq] | rw [sel_big hq] | (rw [g2, g1]; rfl)), rfl⟩)
        · skip
          show j_V g κ 0 0 0 [(0, .ref x0), (1, .int (nI u)), (2, .int (nI i)), (3, .int (nI 1))] [] ([(x0, .inr (5, [.ref tw, .ref r0, .ref tk, .ref m0, .ref ha, .int (nI cnt), .int (b2 blk), .int pl, .ref tn, .ref bn, .ref w0])), (tk, .inr (3, [.ref kb, .int (nI n)])), (kb, .inl (aB g, 2000, .inl (bf t))), (ha, .inl (aQ g, 12, .inr (.inr (.inr (.inr (fun j => some (xa j)))))))] ++ txs g xa xb y f)
          refine j_aload_n (pc := 0) C d_Dsk_input_0 rfl 0 rfl ?_
          refine j_iload_n (pc := 1) C d_Dsk_input_1 rfl 1 rfl ?_
          refine j_callV (pc := 2) (As := [.int (nI u)]) (rest := []) (wc := [(x0, .inr (5, [.ref tw, .ref r0, .ref tk, .ref m0, .ref ha, .int (nI cnt), .int (b2 blk), .int pl, .ref tn, .ref bn, .ref w0]))]) (wr := [(tk, .inr (3, [.ref kb, .int (nI n)])), (kb, .inl (aB g, 2000, .inl (bf t))), (ha, .inl (aQ g, 12, .inr (.inr (.inr (.inr (fun j => some (xa j)))))))] ++ txs g xa xb y f) C (c_Dsk_hasTransaction (kl κ) g x0 tw tk r0 m0 ha tn bn w0 cnt blk pl (nI u) (by omega)) Y_Dsk_hasTransaction ml_Dsk_138 im_Dsk_hasTransaction sl_Dsk_hasTransaction rfl ⟨by decide, by decide⟩ rfl (ci := 5) (q0 := 0) rfl rfl rfl (Nat.le_of_ble_eq_true rfl) (by exact j_Sb.app (a := [(x0, .inr (5, [.ref tw, .ref r0, .ref tk, .ref m0, .ref ha, .int (nI cnt), .int (b2 blk), .int pl, .ref tn, .ref bn, .ref w0])), (tk, .inr (3, [.ref kb, .int (nI n)])), (kb, .inl (aB g, 2000, .inl (bf t))), (ha, .inl (aQ g, 12, .inr (.inr (.inr (.inr (fun j => some (xa j)))))))]) (b := [(x0, .inr (5, [.ref tw, .ref r0, .ref tk, .ref m0, .ref ha, .int (nI cnt), .int (b2 blk), .int pl, .ref tn, .ref bn, .ref w0])), (tk, .inr (3, [.ref kb, .int (nI n)])), (kb, .inl (aB g, 2000, .inl (bf t))), (ha, .inl (aQ g, 12, .inr (.inr (.inr (.inr (fun j => some (xa j)))))))]) (j_sb [0, 1, 2, 3] rfl rfl) (txs g xa xb y f)) rfl d_Dsk_input_2 (fun r w1 hO => ?_)
          obtain ⟨rfl, rfl⟩ := hO
          show j_V g κ 0 0 5 [(0, .ref x0), (1, .int (nI u)), (2, .int (nI i)), (3, .int (nI 1))] [.int (if 0 ≤ nI u ∧ nI u < nI cnt then (1 : Int32) else 0)] ([(x0, .inr (5, [.ref tw, .ref r0, .ref tk, .ref m0, .ref ha, .int (nI cnt), .int (b2 blk), .int pl, .ref tn, .ref bn, .ref w0])), (tk, .inr (3, [.ref kb, .int (nI n)])), (kb, .inl (aB g, 2000, .inl (bf t))), (ha, .inl (aQ g, 12, .inr (.inr (.inr (.inr (fun j => some (xa j)))))))] ++ txs g xa xb y f)
          refine j_if_eqB (pc := 5) (tgt := 25) C d_Dsk_input_5 rfl (fun c5 => ?_) (fun c5 => ?_)
          · skip
            exact absurd ⟨nI_pos' (by omega), nI_lt hu (by omega)⟩ c5
          · skip
            refine j_iload_n (pc := 8) C d_Dsk_input_8 rfl 2 rfl ?_
            refine j_if_ltN (pc := 9) (tgt := 25) C (by omega) d_Dsk_input_9 rfl ?_
            refine j_iload_n (pc := 12) C d_Dsk_input_12 rfl 2 rfl ?_
            refine j_aload_n (pc := 13) C d_Dsk_input_13 rfl 0 rfl ?_
            refine j_get (pc := 14) C F_Dsk_38 0 rfl rfl d_Dsk_input_14 ?_
            refine j_iload_n (pc := 17) C d_Dsk_input_17 rfl 1 rfl ?_
            refine j_aaldN (pc := 18) (b := xa u) C 3 2 rfl rfl (by omega) (by omega) rfl d_Dsk_input_18 ?_
            refine j_getM (pc := 19) C F_Dsk_143 (List.mem_append_right _ (txs_mem (u := u) (by omega) txc_0)) rfl d_Dsk_input_19 ?_
            refine j_rwi (y := nI ((xZ t n (itN (rTx t n) u s2)).1)) (h2) ?_
            refine j_icmp_ltN (pc := 22) (tgt := 29) C (by omega) (by omega) d_Dsk_input_22 rfl (fun c22 => ?_) (fun c22 => ?_)
            · skip
              refine j_aload_n (pc := 29) C d_Dsk_input_29 rfl 0 rfl ?_
              refine j_get (pc := 30) C F_Dsk_38 0 rfl rfl d_Dsk_input_30 ?_
              refine j_iload_n (pc := 33) C d_Dsk_input_33 rfl 1 rfl ?_
              refine j_aaldN (pc := 34) (b := xa u) C 3 2 rfl rfl (by omega) (by omega) rfl d_Dsk_input_34 ?_
              refine j_astore (pc := 35) (lv' := [(4, .ref (xa u)), (0, .ref x0), (1, .int (nI u)), (2, .int (nI i)), (3, .int (nI 1))]) C d_Dsk_input_35 (by decide) rfl ?_
              refine j_aload (pc := 37) C d_Dsk_input_37 0 rfl ?_
              refine j_getM (pc := 39) C F_Dsk_152 (List.mem_append_right _ (txs_mem (u := u) (by omega) txc_0)) rfl d_Dsk_input_39 ?_
              refine j_iload_n (pc := 42) C d_Dsk_input_42 rfl 3 rfl ?_
              refine j_ialdMN (pc := 43) C 1 (List.mem_append_right _ (txs_mem (u := u) (by omega) (txc_k 1 (by decide) (by decide)))) rfl (by omega) (by omega) d_Dsk_input_43 ?_
              refine j_rwi (y := nI a1) (by rw [k1]; exact congrArg (fun z => nI (pos z)) g1) ?_
              refine j_istore (pc := 44) (lv' := [(5, .int (nI a1)), (4, .ref (xa u)), (0, .ref x0), (1, .int (nI u)), (2, .int (nI i)), (3, .int (nI 1))]) C d_Dsk_input_44 (by decide) rfl ?_
              refine j_aload (pc := 46) C d_Dsk_input_46 1 rfl ?_
              refine j_getM (pc := 48) C F_Dsk_156 (List.mem_append_right _ (txs_mem (u := u) (by omega) txc_0)) rfl d_Dsk_input_48 ?_
              refine j_iload_n (pc := 51) C d_Dsk_input_51 rfl 4 rfl ?_
              refine j_ialdMN (pc := 52) C 1 (List.mem_append_right _ (txs_mem (u := u) (by omega) (txc_k 2 (by decide) (by decide)))) rfl (by omega) (by omega) d_Dsk_input_52 ?_
              refine j_rwi (y := nI q1) (by rw [k2]; exact congrArg (fun z => nI (pos z)) g2) ?_
              refine j_istore (pc := 53) (lv' := [(6, .int (nI q1)), (5, .int (nI a1)), (4, .ref (xa u)), (0, .ref x0), (1, .int (nI u)), (2, .int (nI i)), (3, .int (nI 1))]) C d_Dsk_input_53 (by decide) rfl ?_
              refine j_aload (pc := 55) C d_Dsk_input_55 2 rfl ?_
              refine j_getM (pc := 57) C F_Dsk_159 (List.mem_append_right _ (txs_mem (u := u) (by omega) txc_0)) rfl d_Dsk_input_57 ?_
              refine j_iload_n (pc := 60) C d_Dsk_input_60 rfl 5 rfl ?_
              refine j_ialdMN (pc := 61) C 1 (List.mem_append_right _ (txs_mem (u := u) (by omega) (txc_k 3 (by decide) (by decide)))) rfl (by omega) (by omega) d_Dsk_input_61 ?_
              refine j_rwi (y := nI ((inZ t n (xI t n (itN (rTx t n) u s2) i)).1)) (k3) ?_
              refine j_istore (pc := 62) (lv' := [(7, .int (nI ((inZ t n (xI t n (itN (rTx t n) u s2) i)).1))), (6, .int (nI q1)), (5, .int (nI a1)), (4, .ref (xa u)), (0, .ref x0), (1, .int (nI u)), (2, .int (nI i)), (3, .int (nI 1))]) C d_Dsk_input_62 (by decide) rfl ?_
              refine j_iload_n (pc := 64) C d_Dsk_input_64 rfl 7 rfl ?_
              refine j_tableIn (pc := 65) (tgt := 104) C d_Dsk_input_65 (by decide) (by decide) rfl (by decide) ?_
              refine j_aload_n (pc := 104) C d_Dsk_input_104 rfl 4 rfl ?_
              refine j_get (pc := 105) C F_Dsk_26 0 rfl rfl d_Dsk_input_105 ?_
              refine j_iload (pc := 108) C d_Dsk_input_108 2 rfl ?_
              refine j_bipush (pc := 110) (v := nI 32) C d_Dsk_input_110 (by decide) ?_
              refine j_iaddN (pc := 112) C d_Dsk_input_112 ?_
              refine j_iconst (pc := 113) (v := nI 4) C d_Dsk_input_113 (by decide) ?_
              refine j_callV (pc := 114) (As := [.int (nI (a1 + 32)), .int (nI 4)]) (rest := []) (wc := [(tk, .inr (3, [.ref kb, .int (nI n)])), (kb, .inl (aB g, 2000, .inl (bf t)))]) (wr := [(x0, .inr (5, [.ref tw, .ref r0, .ref tk, .ref m0, .ref ha, .int (nI cnt), .int (b2 blk), .int pl, .ref tn, .ref bn, .ref w0])), (ha, .inl (aQ g, 12, .inr (.inr (.inr (.inr (fun j => some (xa j)))))))] ++ txs g xa xb y f) C (c_Txt_lowFirst (kl κ) g tk kb n (a1 + 32) 4 t (by omega) hT (by omega) (by omega)) Y_Txt_lowFirst ml_Dsk_134 im_Txt_lowFirst sl_Txt_lowFirst rfl ⟨by decide, by decide⟩ rfl (ci := 3) (q0 := 0) rfl rfl rfl (Nat.le_of_ble_eq_true rfl) (by exact j_Sb.app (a := [(x0, .inr (5, [.ref tw, .ref r0, .ref tk, .ref m0, .ref ha, .int (nI cnt), .int (b2 blk), .int pl, .ref tn, .ref bn, .ref w0])), (tk, .inr (3, [.ref kb, .int (nI n)])), (kb, .inl (aB g, 2000, .inl (bf t))), (ha, .inl (aQ g, 12, .inr (.inr (.inr (.inr (fun j => some (xa j)))))))]) (b := [(tk, .inr (3, [.ref kb, .int (nI n)])), (kb, .inl (aB g, 2000, .inl (bf t))), (x0, .inr (5, [.ref tw, .ref r0, .ref tk, .ref m0, .ref ha, .int (nI cnt), .int (b2 blk), .int pl, .ref tn, .ref bn, .ref w0])), (ha, .inl (aQ g, 12, .inr (.inr (.inr (.inr (fun j => some (xa j)))))))]) (j_sb [1, 2, 0, 3] rfl rfl) (txs g xa xb y f)) rfl d_Dsk_input_114 (fun r w1 hO => ?_)
              obtain ⟨rfl, rfl⟩ := hO
              show j_V g κ 0 0 117 [(7, .int (nI ((inZ t n (xI t n (itN (rTx t n) u s2) i)).1))), (6, .int (nI q1)), (5, .int (nI a1)), (4, .ref (xa u)), (0, .ref x0), (1, .int (nI u)), (2, .int (nI i)), (3, .int (nI 1))] [.long (lN (lf t (a1 + 32) 4))] ([(tk, .inr (3, [.ref kb, .int (nI n)])), (kb, .inl (aB g, 2000, .inl (bf t))), (x0, .inr (5, [.ref tw, .ref r0, .ref tk, .ref m0, .ref ha, .int (nI cnt), .int (b2 blk), .int pl, .ref tn, .ref bn, .ref w0])), (ha, .inl (aQ g, 12, .inr (.inr (.inr (.inr (fun j => some (xa j)))))))] ++ txs g xa xb y f)
              refine j_sub (ws' := [(x0, .inr (5, [.ref tw, .ref r0, .ref tk, .ref m0, .ref ha, .int (nI cnt), .int (b2 blk), .int pl, .ref tn, .ref bn, .ref w0])), (tk, .inr (3, [.ref kb, .int (nI n)])), (kb, .inl (aB g, 2000, .inl (bf t))), (ha, .inl (aQ g, 12, .inr (.inr (.inr (.inr (fun j => some (xa j)))))))] ++ txs g xa xb y f) (by exact j_Sb.app (a := [(tk, .inr (3, [.ref kb, .int (nI n)])), (kb, .inl (aB g, 2000, .inl (bf t))), (x0, .inr (5, [.ref tw, .ref r0, .ref tk, .ref m0, .ref ha, .int (nI cnt), .int (b2 blk), .int pl, .ref tn, .ref bn, .ref w0])), (ha, .inl (aQ g, 12, .inr (.inr (.inr (.inr (fun j => some (xa j)))))))]) (b := [(x0, .inr (5, [.ref tw, .ref r0, .ref tk, .ref m0, .ref ha, .int (nI cnt), .int (b2 blk), .int pl, .ref tn, .ref bn, .ref w0])), (tk, .inr (3, [.ref kb, .int (nI n)])), (kb, .inl (aB g, 2000, .inl (bf t))), (ha, .inl (aQ g, 12, .inr (.inr (.inr (.inr (fun j => some (xa j)))))))]) (j_sb [2, 0, 1, 3] rfl rfl) (txs g xa xb y f)) ?_
              exact hR.2.1 _ _ _ _ d_Dsk_input_117 rfl (⟨by first | (exfalso; omega) | rw [inR_neg hu] | rw [inR_big hu] | (rw [inR_1 hu (by omega), if_neg (fun z => nlt0 (by assumption) z.1)]) | (rw [inR_1 hu (by omega), if_neg (fun z => nle (by assumption) z.2)]) | (rw [inR_in hu (by omega) hi (by omega)]; unfold inV; first | rw [sel_neg hq] | rw [sel_big hq] | (rw [g2, g1]; rfl)), rfl⟩)
            · skip
              refine j_ldc2 (pc := 25) C k_Dsk_132 d_Dsk_input_25 ?_
              exact hR.2.1 _ _ _ _ d_Dsk_input_28 rfl (⟨by first | (exfalso; omega) | rw [inR_neg hu] | rw [inR_big hu] | (rw [inR_1 hu (by omega), if_neg (fun z => nlt0 (by assumption) z.1)]) | (rw [inR_1 hu (by omega), if_neg (fun z => nle (by assumption) z.2)]) | (rw [inR_in hu (by omega) hi (by omega)]; unfold inV; first | rw [sel_neg hq] | rw [sel_big hq] | (rw [g2, g1]; rfl)), rfl⟩)
        · skip
          show j_V g κ 0 0 0 [(0, .ref x0), (1, .int (nI u)), (2, .int (nI i)), (3, .int (nI 2))] [] ([(x0, .inr (5, [.ref tw, .ref r0, .ref tk, .ref m0, .ref ha, .int (nI cnt), .int (b2 blk), .int pl, .ref tn, .ref bn, .ref w0])), (tk, .inr (3, [.ref kb, .int (nI n)])), (kb, .inl (aB g, 2000, .inl (bf t))), (ha, .inl (aQ g, 12, .inr (.inr (.inr (.inr (fun j => some (xa j)))))))] ++ txs g xa xb y f)
          refine j_aload_n (pc := 0) C d_Dsk_input_0 rfl 0 rfl ?_
          refine j_iload_n (pc := 1) C d_Dsk_input_1 rfl 1 rfl ?_
          refine j_callV (pc := 2) (As := [.int (nI u)]) (rest := []) (wc := [(x0, .inr (5, [.ref tw, .ref r0, .ref tk, .ref m0, .ref ha, .int (nI cnt), .int (b2 blk), .int pl, .ref tn, .ref bn, .ref w0]))]) (wr := [(tk, .inr (3, [.ref kb, .int (nI n)])), (kb, .inl (aB g, 2000, .inl (bf t))), (ha, .inl (aQ g, 12, .inr (.inr (.inr (.inr (fun j => some (xa j)))))))] ++ txs g xa xb y f) C (c_Dsk_hasTransaction (kl κ) g x0 tw tk r0 m0 ha tn bn w0 cnt blk pl (nI u) (by omega)) Y_Dsk_hasTransaction ml_Dsk_138 im_Dsk_hasTransaction sl_Dsk_hasTransaction rfl ⟨by decide, by decide⟩ rfl (ci := 5) (q0 := 0) rfl rfl rfl (Nat.le_of_ble_eq_true rfl) (by exact j_Sb.app (a := [(x0, .inr (5, [.ref tw, .ref r0, .ref tk, .ref m0, .ref ha, .int (nI cnt), .int (b2 blk), .int pl, .ref tn, .ref bn, .ref w0])), (tk, .inr (3, [.ref kb, .int (nI n)])), (kb, .inl (aB g, 2000, .inl (bf t))), (ha, .inl (aQ g, 12, .inr (.inr (.inr (.inr (fun j => some (xa j)))))))]) (b := [(x0, .inr (5, [.ref tw, .ref r0, .ref tk, .ref m0, .ref ha, .int (nI cnt), .int (b2 blk), .int pl, .ref tn, .ref bn, .ref w0])), (tk, .inr (3, [.ref kb, .int (nI n)])), (kb, .inl (aB g, 2000, .inl (bf t))), (ha, .inl (aQ g, 12, .inr (.inr (.inr (.inr (fun j => some (xa j)))))))]) (j_sb [0, 1, 2, 3] rfl rfl) (txs g xa xb y f)) rfl d_Dsk_input_2 (fun r w1 hO => ?_)
          obtain ⟨rfl, rfl⟩ := hO
          show j_V g κ 0 0 5 [(0, .ref x0), (1, .int (nI u)), (2, .int (nI i)), (3, .int (nI 2))] [.int (if 0 ≤ nI u ∧ nI u < nI cnt then (1 : Int32) else 0)] ([(x0, .inr (5, [.ref tw, .ref r0, .ref tk, .ref m0, .ref ha, .int (nI cnt), .int (b2 blk), .int pl, .ref tn, .ref bn, .ref w0])), (tk, .inr (3, [.ref kb, .int (nI n)])), (kb, .inl (aB g, 2000, .inl (bf t))), (ha, .inl (aQ g, 12, .inr (.inr (.inr (.inr (fun j => some (xa j)))))))] ++ txs g xa xb y f)
          refine j_if_eqB (pc := 5) (tgt := 25) C d_Dsk_input_5 rfl (fun c5 => ?_) (fun c5 => ?_)
          · skip
            exact absurd ⟨nI_pos' (by omega), nI_lt hu (by omega)⟩ c5
          · skip
            refine j_iload_n (pc := 8) C d_Dsk_input_8 rfl 2 rfl ?_
            refine j_if_ltN (pc := 9) (tgt := 25) C (by omega) d_Dsk_input_9 rfl ?_
            refine j_iload_n (pc := 12) C d_Dsk_input_12 rfl 2 rfl ?_
            refine j_aload_n (pc := 13) C d_Dsk_input_13 rfl 0 rfl ?_
            refine j_get (pc := 14) C F_Dsk_38 0 rfl rfl d_Dsk_input_14 ?_
            refine j_iload_n (pc := 17) C d_Dsk_input_17 rfl 1 rfl ?_
            refine j_aaldN (pc := 18) (b := xa u) C 3 2 rfl rfl (by omega) (by omega) rfl d_Dsk_input_18 ?_
            refine j_getM (pc := 19) C F_Dsk_143 (List.mem_append_right _ (txs_mem (u := u) (by omega) txc_0)) rfl d_Dsk_input_19 ?_
            refine j_rwi (y := nI ((xZ t n (itN (rTx t n) u s2)).1)) (h2) ?_
            refine j_icmp_ltN (pc := 22) (tgt := 29) C (by omega) (by omega) d_Dsk_input_22 rfl (fun c22 => ?_) (fun c22 => ?_)
            · skip
              refine j_aload_n (pc := 29) C d_Dsk_input_29 rfl 0 rfl ?_
              refine j_get (pc := 30) C F_Dsk_38 0 rfl rfl d_Dsk_input_30 ?_
              refine j_iload_n (pc := 33) C d_Dsk_input_33 rfl 1 rfl ?_
              refine j_aaldN (pc := 34) (b := xa u) C 3 2 rfl rfl (by omega) (by omega) rfl d_Dsk_input_34 ?_
              refine j_astore (pc := 35) (lv' := [(4, .ref (xa u)), (0, .ref x0), (1, .int (nI u)), (2, .int (nI i)), (3, .int (nI 2))]) C d_Dsk_input_35 (by decide) rfl ?_
              refine j_aload (pc := 37) C d_Dsk_input_37 0 rfl ?_
              refine j_getM (pc := 39) C F_Dsk_152 (List.mem_append_right _ (txs_mem (u := u) (by omega) txc_0)) rfl d_Dsk_input_39 ?_
              refine j_iload_n (pc := 42) C d_Dsk_input_42 rfl 3 rfl ?_
              refine j_ialdMN (pc := 43) C 1 (List.mem_append_right _ (txs_mem (u := u) (by omega) (txc_k 1 (by decide) (by decide)))) rfl (by omega) (by omega) d_Dsk_input_43 ?_
              refine j_rwi (y := nI a1) (by rw [k1]; exact congrArg (fun z => nI (pos z)) g1) ?_
              refine j_istore (pc := 44) (lv' := [(5, .int (nI a1)), (4, .ref (xa u)), (0, .ref x0), (1, .int (nI u)), (2, .int (nI i)), (3, .int (nI 2))]) C d_Dsk_input_44 (by decide) rfl ?_
              refine j_aload (pc := 46) C d_Dsk_input_46 1 rfl ?_
              refine j_getM (pc := 48) C F_Dsk_156 (List.mem_append_right _ (txs_mem (u := u) (by omega) txc_0)) rfl d_Dsk_input_48 ?_
              refine j_iload_n (pc := 51) C d_Dsk_input_51 rfl 4 rfl ?_
              refine j_ialdMN (pc := 52) C 1 (List.mem_append_right _ (txs_mem (u := u) (by omega) (txc_k 2 (by decide) (by decide)))) rfl (by omega) (by omega) d_Dsk_input_52 ?_
              refine j_rwi (y := nI q1) (by rw [k2]; exact congrArg (fun z => nI (pos z)) g2) ?_
              refine j_istore (pc := 53) (lv' := [(6, .int (nI q1)), (5, .int (nI a1)), (4, .ref (xa u)), (0, .ref x0), (1, .int (nI u)), (2, .int (nI i)), (3, .int (nI 2))]) C d_Dsk_input_53 (by decide) rfl ?_
              refine j_aload (pc := 55) C d_Dsk_input_55 2 rfl ?_
              refine j_getM (pc := 57) C F_Dsk_159 (List.mem_append_right _ (txs_mem (u := u) (by omega) txc_0)) rfl d_Dsk_input_57 ?_
              refine j_iload_n (pc := 60) C d_Dsk_input_60 rfl 5 rfl ?_
              refine j_ialdMN (pc := 61) C 1 (List.mem_append_right _ (txs_mem (u := u) (by omega) (txc_k 3 (by decide) (by decide)))) rfl (by omega) (by omega) d_Dsk_input_61 ?_
              refine j_rwi (y := nI ((inZ t n (xI t n (itN (rTx t n) u s2) i)).1)) (k3) ?_
              refine j_istore (pc := 62) (lv' := [(7, .int (nI ((inZ t n (xI t n (itN (rTx t n) u s2) i)).1))), (6, .int (nI q1)), (5, .int (nI a1)), (4, .ref (xa u)), (0, .ref x0), (1, .int (nI u)), (2, .int (nI i)), (3, .int (nI 2))]) C d_Dsk_input_62 (by decide) rfl ?_
              refine j_iload_n (pc := 64) C d_Dsk_input_64 rfl 7 rfl ?_
              refine j_tableIn (pc := 65) (tgt := 118) C d_Dsk_input_65 (by decide) (by decide) rfl (by decide) ?_
              refine j_iload (pc := 118) C d_Dsk_input_118 1 rfl ?_
              refine j_i2l (pc := 120) (v := lN q1) C d_Dsk_input_120 (nI_l (by omega)) ?_
              exact hR.2.1 _ _ _ _ d_Dsk_input_121 rfl (⟨by first | (exfalso; omega) | rw [inR_neg hu] | rw [inR_big hu] | (rw [inR_1 hu (by omega), if_neg (fun z => nlt0 (by assumption) z.1)]) | (rw [inR_1 hu (by omega), if_neg (fun z => nle (by assumption) z.2)]) | (rw [inR_in hu (by omega) hi (by omega)]; unfold inV; first | rw [sel_neg hq] | rw [sel_big hq] | (rw [g2, g1]; rfl)), rfl⟩)
            · skip
              refine j_ldc2 (pc := 25) C k_Dsk_132 d_Dsk_input_25 ?_
              exact hR.2.1 _ _ _ _ d_Dsk_input_28 rfl (⟨by first | (exfalso; omega) | rw [inR_neg hu] | rw [inR_big hu] | (rw [inR_1 hu (by omega), if_neg (fun z => nlt0 (by assumption) z.1)]) | (rw [inR_1 hu (by omega), if_neg (fun z => nle (by assumption) z.2)]) | (rw [inR_in hu (by omega) hi (by omega)]; unfold inV; first | rw [sel_neg hq] | rw [sel_big hq] | (rw [g2, g1]; rfl)), rfl⟩)
        · skip
          show j_V g κ 0 0 0 [(0, .ref x0), (1, .int (nI u)), (2, .int (nI i)), (3, .int (nI 3))] [] ([(x0, .inr (5, [.ref tw, .ref r0, .ref tk, .ref m0, .ref ha, .int (nI cnt), .int (b2 blk), .int pl, .ref tn, .ref bn, .ref w0])), (tk, .inr (3, [.ref kb, .int (nI n)])), (kb, .inl (aB g, 2000, .inl (bf t))), (ha, .inl (aQ g, 12, .inr (.inr (.inr (.inr (fun j => some (xa j)))))))] ++ txs g xa xb y f)
          refine j_aload_n (pc := 0) C d_Dsk_input_0 rfl 0 rfl ?_
          refine j_iload_n (pc := 1) C d_Dsk_input_1 rfl 1 rfl ?_
          refine j_callV (pc := 2) (As := [.int (nI u)]) (rest := []) (wc := [(x0, .inr (5, [.ref tw, .ref r0, .ref tk, .ref m0, .ref ha, .int (nI cnt), .int (b2 blk), .int pl, .ref tn, .ref bn, .ref w0]))]) (wr := [(tk, .inr (3, [.ref kb, .int (nI n)])), (kb, .inl (aB g, 2000, .inl (bf t))), (ha, .inl (aQ g, 12, .inr (.inr (.inr (.inr (fun j => some (xa j)))))))] ++ txs g xa xb y f) C (c_Dsk_hasTransaction (kl κ) g x0 tw tk r0 m0 ha tn bn w0 cnt blk pl (nI u) (by omega)) Y_Dsk_hasTransaction ml_Dsk_138 im_Dsk_hasTransaction sl_Dsk_hasTransaction rfl ⟨by decide, by decide⟩ rfl (ci := 5) (q0 := 0) rfl rfl rfl (Nat.le_of_ble_eq_true rfl) (by exact j_Sb.app (a := [(x0, .inr (5, [.ref tw, .ref r0, .ref tk, .ref m0, .ref ha, .int (nI cnt), .int (b2 blk), .int pl, .ref tn, .ref bn, .ref w0])), (tk, .inr (3, [.ref kb, .int (nI n)])), (kb, .inl (aB g, 2000, .inl (bf t))), (ha, .inl (aQ g, 12, .inr (.inr (.inr (.inr (fun j => some (xa j)))))))]) (b := [(x0, .inr (5, [.ref tw, .ref r0, .ref tk, .ref m0, .ref ha, .int (nI cnt), .int (b2 blk), .int pl, .ref tn, .ref bn, .ref w0])), (tk, .inr (3, [.ref kb, .int (nI n)])), (kb, .inl (aB g, 2000, .inl (bf t))), (ha, .inl (aQ g, 12, .inr (.inr (.inr (.inr (fun j => some (xa j)))))))]) (j_sb [0, 1, 2, 3] rfl rfl) (txs g xa xb y f)) rfl d_Dsk_input_2 (fun r w1 hO => ?_)
          obtain ⟨rfl, rfl⟩ := hO
          show j_V g κ 0 0 5 [(0, .ref x0), (1, .int (nI u)), (2, .int (nI i)), (3, .int (nI 3))] [.int (if 0 ≤ nI u ∧ nI u < nI cnt then (1 : Int32) else 0)] ([(x0, .inr (5, [.ref tw, .ref r0, .ref tk, .ref m0, .ref ha, .int (nI cnt), .int (b2 blk), .int pl, .ref tn, .ref bn, .ref w0])), (tk, .inr (3, [.ref kb, .int (nI n)])), (kb, .inl (aB g, 2000, .inl (bf t))), (ha, .inl (aQ g, 12, .inr (.inr (.inr (.inr (fun j => some (xa j)))))))] ++ txs g xa xb y f)
          refine j_if_eqB (pc := 5) (tgt := 25) C d_Dsk_input_5 rfl (fun c5 => ?_) (fun c5 => ?_)
          · skip
            exact absurd ⟨nI_pos' (by omega), nI_lt hu (by omega)⟩ c5
          · skip
            refine j_iload_n (pc := 8) C d_Dsk_input_8 rfl 2 rfl ?_
            refine j_if_ltN (pc := 9) (tgt := 25) C (by omega) d_Dsk_input_9 rfl ?_
            refine j_iload_n (pc := 12) C d_Dsk_input_12 rfl 2 rfl ?_
            refine j_aload_n (pc := 13) C d_Dsk_input_13 rfl 0 rfl ?_
            refine j_get (pc := 14) C F_Dsk_38 0 rfl rfl d_Dsk_input_14 ?_
            refine j_iload_n (pc := 17) C d_Dsk_input_17 rfl 1 rfl ?_
            refine j_aaldN (pc := 18) (b := xa u) C 3 2 rfl rfl (by omega) (by omega) rfl d_Dsk_input_18 ?_
            refine j_getM (pc := 19) C F_Dsk_143 (List.mem_append_right _ (txs_mem (u := u) (by omega) txc_0)) rfl d_Dsk_input_19 ?_
            refine j_rwi (y := nI ((xZ t n (itN (rTx t n) u s2)).1)) (h2) ?_
            refine j_icmp_ltN (pc := 22) (tgt := 29) C (by omega) (by omega) d_Dsk_input_22 rfl (fun c22 => ?_) (fun c22 => ?_)
            · skip
              refine j_aload_n (pc := 29) C d_Dsk_input_29 rfl 0 rfl ?_
              refine j_get (pc := 30) C F_Dsk_38 0 rfl rfl d_Dsk_input_30 ?_
              refine j_iload_n (pc := 33) C d_Dsk_input_33 rfl 1 rfl ?_
              refine j_aaldN (pc := 34) (b := xa u) C 3 2 rfl rfl (by omega) (by omega) rfl d_Dsk_input_34 ?_
              refine j_astore (pc := 35) (lv' := [(4, .ref (xa u)), (0, .ref x0), (1, .int (nI u)), (2, .int (nI i)), (3, .int (nI 3))]) C d_Dsk_input_35 (by decide) rfl ?_
              refine j_aload (pc := 37) C d_Dsk_input_37 0 rfl ?_
              refine j_getM (pc := 39) C F_Dsk_152 (List.mem_append_right _ (txs_mem (u := u) (by omega) txc_0)) rfl d_Dsk_input_39 ?_
              refine j_iload_n (pc := 42) C d_Dsk_input_42 rfl 3 rfl ?_
              refine j_ialdMN (pc := 43) C 1 (List.mem_append_right _ (txs_mem (u := u) (by omega) (txc_k 1 (by decide) (by decide)))) rfl (by omega) (by omega) d_Dsk_input_43 ?_
              refine j_rwi (y := nI a1) (by rw [k1]; exact congrArg (fun z => nI (pos z)) g1) ?_
              refine j_istore (pc := 44) (lv' := [(5, .int (nI a1)), (4, .ref (xa u)), (0, .ref x0), (1, .int (nI u)), (2, .int (nI i)), (3, .int (nI 3))]) C d_Dsk_input_44 (by decide) rfl ?_
              refine j_aload (pc := 46) C d_Dsk_input_46 1 rfl ?_
              refine j_getM (pc := 48) C F_Dsk_156 (List.mem_append_right _ (txs_mem (u := u) (by omega) txc_0)) rfl d_Dsk_input_48 ?_
              refine j_iload_n (pc := 51) C d_Dsk_input_51 rfl 4 rfl ?_
              refine j_ialdMN (pc := 52) C 1 (List.mem_append_right _ (txs_mem (u := u) (by omega) (txc_k 2 (by decide) (by decide)))) rfl (by omega) (by omega) d_Dsk_input_52 ?_
              refine j_rwi (y := nI q1) (by rw [k2]; exact congrArg (fun z => nI (pos z)) g2) ?_
              refine j_istore (pc := 53) (lv' := [(6, .int (nI q1)), (5, .int (nI a1)), (4, .ref (xa u)), (0, .ref x0), (1, .int (nI u)), (2, .int (nI i)), (3, .int (nI 3))]) C d_Dsk_input_53 (by decide) rfl ?_
              refine j_aload (pc := 55) C d_Dsk_input_55 2 rfl ?_
              refine j_getM (pc := 57) C F_Dsk_159 (List.mem_append_right _ (txs_mem (u := u) (by omega) txc_0)) rfl d_Dsk_input_57 ?_
              refine j_iload_n (pc := 60) C d_Dsk_input_60 rfl 5 rfl ?_
              refine j_ialdMN (pc := 61) C 1 (List.mem_append_right _ (txs_mem (u := u) (by omega) (txc_k 3 (by decide) (by decide)))) rfl (by omega) (by omega) d_Dsk_input_61 ?_
              refine j_rwi (y := nI ((inZ t n (xI t n (itN (rTx t n) u s2) i)).1)) (k3) ?_
              refine j_istore (pc := 62) (lv' := [(7, .int (nI ((inZ t n (xI t n (itN (rTx t n) u s2) i)).1))), (6, .int (nI q1)), (5, .int (nI a1)), (4, .ref (xa u)), (0, .ref x0), (1, .int (nI u)), (2, .int (nI i)), (3, .int (nI 3))]) C d_Dsk_input_62 (by decide) rfl ?_
              refine j_iload_n (pc := 64) C d_Dsk_input_64 rfl 7 rfl ?_
              refine j_tableIn (pc := 65) (tgt := 122) C d_Dsk_input_65 (by decide) (by decide) rfl (by decide) ?_
              refine j_iload (pc := 122) C d_Dsk_input_122 0 rfl ?_
              refine j_i2l (pc := 124) (v := lN ((inZ t n (xI t n (itN (rTx t n) u s2) i)).1)) C d_Dsk_input_124 (nI_l (by omega)) ?_
              exact hR.2.1 _ _ _ _ d_Dsk_input_125 rfl (⟨by first | (exfalso; omega) | rw [inR_neg hu] | rw [inR_big hu] | (rw [inR_1 hu (by omega), if_neg (fun z => nlt0 (by assumption) z.1)]) | (rw [inR_1 hu (by omega), if_neg (fun z => nle (by assumption) z.2)]) | (rw [inR_in hu (by omega) hi (by omega)]; unfold inV; first | rw [sel_neg hq] | rw [sel_big hq] | (rw [g2, g1]; rfl)), rfl⟩)
            · skip
              refine j_ldc2 (pc := 25) C k_Dsk_132 d_Dsk_input_25 ?_
              exact hR.2.1 _ _ _ _ d_Dsk_input_28 rfl (⟨by first | (exfalso; omega) | rw [inR_neg hu] | rw [inR_big hu] | (rw [inR_1 hu (by omega), if_neg (fun z => nlt0 (by assumption) z.1)]) | (rw [inR_1 hu (by omega), if_neg (fun z => nle (by assumption) z.2)]) | (rw [inR_in hu (by omega) hi (by omega)]; unfold inV; first | rw [sel_neg hq] | rw [sel_big hq] | (rw [g2, g1]; rfl)), rfl⟩)
        · skip
          show j_V g κ 0 0 0 [(0, .ref x0), (1, .int (nI u)), (2, .int (nI i)), (3, .int (nI 4))] [] ([(x0, .inr (5, [.ref tw, .ref r0, .ref tk, .ref m0, .ref ha, .int (nI cnt), .int (b2 blk), .int pl, .ref tn, .ref bn, .ref w0])), (tk, .inr (3, [.ref kb, .int (nI n)])), (kb, .inl (aB g, 2000, .inl (bf t))), (ha, .inl (aQ g, 12, .inr (.inr (.inr (.inr (fun j => some (xa j)))))))] ++ txs g xa xb y f)
          refine j_aload_n (pc := 0) C d_Dsk_input_0 rfl 0 rfl ?_
          refine j_iload_n (pc := 1) C d_Dsk_input_1 rfl 1 rfl ?_
          refine j_callV (pc := 2) (As := [.int (nI u)]) (rest := []) (wc := [(x0, .inr (5, [.ref tw, .ref r0, .ref tk, .ref m0, .ref ha, .int (nI cnt), .int (b2 blk), .int pl, .ref tn, .ref bn, .ref w0]))]) (wr := [(tk, .inr (3, [.ref kb, .int (nI n)])), (kb, .inl (aB g, 2000, .inl (bf t))), (ha, .inl (aQ g, 12, .inr (.inr (.inr (.inr (fun j => some (xa j)))))))] ++ txs g xa xb y f) C (c_Dsk_hasTransaction (kl κ) g x0 tw tk r0 m0 ha tn bn w0 cnt blk pl (nI u) (by omega)) Y_Dsk_hasTransaction ml_Dsk_138 im_Dsk_hasTransaction sl_Dsk_hasTransaction rfl ⟨by decide, by decide⟩ rfl (ci := 5) (q0 := 0) rfl rfl rfl (Nat.le_of_ble_eq_true rfl) (by exact j_Sb.app (a := [(x0, .inr (5, [.ref tw, .ref r0, .ref tk, .ref m0, .ref ha, .int (nI cnt), .int (b2 blk), .int pl, .ref tn, .ref bn, .ref w0])), (tk, .inr (3, [.ref kb, .int (nI n)])), (kb, .inl (aB g, 2000, .inl (bf t))), (ha, .inl (aQ g, 12, .inr (.inr (.inr (.inr (fun j => some (xa j)))))))]) (b := [(x0, .inr (5, [.ref tw, .ref r0, .ref tk, .ref m0, .ref ha, .int (nI cnt), .int (b2 blk), .int pl, .ref tn, .ref bn, .ref w0])), (tk, .inr (3, [.ref kb, .int (nI n)])), (kb, .inl (aB g, 2000, .inl (bf t))), (ha, .inl (aQ g, 12, .inr (.inr (.inr (.inr (fun j => some (xa j)))))))]) (j_sb [0, 1, 2, 3] rfl rfl) (txs g xa xb y f)) rfl d_Dsk_input_2 (fun r w1 hO => ?_)
          obtain ⟨rfl, rfl⟩ := hO
          show j_V g κ 0 0 5 [(0, .ref x0), (1, .int (nI u)), (2, .int (nI i)), (3, .int (nI 4))] [.int (if 0 ≤ nI u ∧ nI u < nI cnt then (1 : Int32) else 0)] ([(x0, .inr (5, [.ref tw, .ref r0, .ref tk, .ref m0, .ref ha, .int (nI cnt), .int (b2 blk), .int pl, .ref tn, .ref bn, .ref w0])), (tk, .inr (3, [.ref kb, .int (nI n)])), (kb, .inl (aB g, 2000, .inl (bf t))), (ha, .inl (aQ g, 12, .inr (.inr (.inr (.inr (fun j => some (xa j)))))))] ++ txs g xa xb y f)
          refine j_if_eqB (pc := 5) (tgt := 25) C d_Dsk_input_5 rfl (fun c5 => ?_) (fun c5 => ?_)
          · skip
            exact absurd ⟨nI_pos' (by omega), nI_lt hu (by omega)⟩ c5
          · skip
            refine j_iload_n (pc := 8) C d_Dsk_input_8 rfl 2 rfl ?_
            refine j_if_ltN (pc := 9) (tgt := 25) C (by omega) d_Dsk_input_9 rfl ?_
            refine j_iload_n (pc := 12) C d_Dsk_input_12 rfl 2 rfl ?_
            refine j_aload_n (pc := 13) C d_Dsk_input_13 rfl 0 rfl ?_
            refine j_get (pc := 14) C F_Dsk_38 0 rfl rfl d_Dsk_input_14 ?_
            refine j_iload_n (pc := 17) C d_Dsk_input_17 rfl 1 rfl ?_
            refine j_aaldN (pc := 18) (b := xa u) C 3 2 rfl rfl (by omega) (by omega) rfl d_Dsk_input_18 ?_
            refine j_getM (pc := 19) C F_Dsk_143 (List.mem_append_right _ (txs_mem (u := u) (by omega) txc_0)) rfl d_Dsk_input_19 ?_
            refine j_rwi (y := nI ((xZ t n (itN (rTx t n) u s2)).1)) (h2) ?_
            refine j_icmp_ltN (pc := 22) (tgt := 29) C (by omega) (by omega) d_Dsk_input_22 rfl (fun c22 => ?_) (fun c22 => ?_)
            · skip
              refine j_aload_n (pc := 29) C d_Dsk_input_29 rfl 0 rfl ?_
              refine j_get (pc := 30) C F_Dsk_38 0 rfl rfl d_Dsk_input_30 ?_
              refine j_iload_n (pc := 33) C d_Dsk_input_33 rfl 1 rfl ?_
              refine j_aaldN (pc := 34) (b := xa u) C 3 2 rfl rfl (by omega) (by omega) rfl d_Dsk_input_34 ?_
              refine j_astore (pc := 35) (lv' := [(4, .ref (xa u)), (0, .ref x0), (1, .int (nI u)), (2, .int (nI i)), (3, .int (nI 4))]) C d_Dsk_input_35 (by decide) rfl ?_
              refine j_aload (pc := 37) C d_Dsk_input_37 0 rfl ?_
              refine j_getM (pc := 39) C F_Dsk_152 (List.mem_append_right _ (txs_mem (u := u) (by omega) txc_0)) rfl d_Dsk_input_39 ?_
              refine j_iload_n (pc := 42) C d_Dsk_input_42 rfl 3 rfl ?_
              refine j_ialdMN (pc := 43) C 1 (List.mem_append_right _ (txs_mem (u := u) (by omega) (txc_k 1 (by decide) (by decide)))) rfl (by omega) (by omega) d_Dsk_input_43 ?_
              refine j_rwi (y := nI a1) (by rw [k1]; exact congrArg (fun z => nI (pos z)) g1) ?_
              refine j_istore (pc := 44) (lv' := [(5, .int (nI a1)), (4, .ref (xa u)), (0, .ref x0), (1, .int (nI u)), (2, .int (nI i)), (3, .int (nI 4))]) C d_Dsk_input_44 (by decide) rfl ?_
              refine j_aload (pc := 46) C d_Dsk_input_46 1 rfl ?_
              refine j_getM (pc := 48) C F_Dsk_156 (List.mem_append_right _ (txs_mem (u := u) (by omega) txc_0)) rfl d_Dsk_input_48 ?_
              refine j_iload_n (pc := 51) C d_Dsk_input_51 rfl 4 rfl ?_
              refine j_ialdMN (pc := 52) C 1 (List.mem_append_right _ (txs_mem (u := u) (by omega) (txc_k 2 (by decide) (by decide)))) rfl (by omega) (by omega) d_Dsk_input_52 ?_
              refine j_rwi (y := nI q1) (by rw [k2]; exact congrArg (fun z => nI (pos z)) g2) ?_
              refine j_istore (pc := 53) (lv' := [(6, .int (nI q1)), (5, .int (nI a1)), (4, .ref (xa u)), (0, .ref x0), (1, .int (nI u)), (2, .int (nI i)), (3, .int (nI 4))]) C d_Dsk_input_53 (by decide) rfl ?_
              refine j_aload (pc := 55) C d_Dsk_input_55 2 rfl ?_
              refine j_getM (pc := 57) C F_Dsk_159 (List.mem_append_right _ (txs_mem (u := u) (by omega) txc_0)) rfl d_Dsk_input_57 ?_
              refine j_iload_n (pc := 60) C d_Dsk_input_60 rfl 5 rfl ?_
              refine j_ialdMN (pc := 61) C 1 (List.mem_append_right _ (txs_mem (u := u) (by omega) (txc_k 3 (by decide) (by decide)))) rfl (by omega) (by omega) d_Dsk_input_61 ?_
              refine j_rwi (y := nI ((inZ t n (xI t n (itN (rTx t n) u s2) i)).1)) (k3) ?_
              refine j_istore (pc := 62) (lv' := [(7, .int (nI ((inZ t n (xI t n (itN (rTx t n) u s2) i)).1))), (6, .int (nI q1)), (5, .int (nI a1)), (4, .ref (xa u)), (0, .ref x0), (1, .int (nI u)), (2, .int (nI i)), (3, .int (nI 4))]) C d_Dsk_input_62 (by decide) rfl ?_
              refine j_iload_n (pc := 64) C d_Dsk_input_64 rfl 7 rfl ?_
              refine j_tableIn (pc := 65) (tgt := 126) C d_Dsk_input_65 (by decide) (by decide) rfl (by decide) ?_
              refine j_aload_n (pc := 126) C d_Dsk_input_126 rfl 4 rfl ?_
              refine j_get (pc := 127) C F_Dsk_26 0 rfl rfl d_Dsk_input_127 ?_
              refine j_iload (pc := 130) C d_Dsk_input_130 1 rfl ?_
              refine j_iload (pc := 132) C d_Dsk_input_132 0 rfl ?_
              refine j_iaddN (pc := 134) C d_Dsk_input_134 ?_
              refine j_iconst (pc := 135) (v := nI 4) C d_Dsk_input_135 (by decide) ?_
              refine j_callV (pc := 136) (As := [.int (nI (q1 + ((inZ t n (xI t n (itN (rTx t n) u s2) i)).1))), .int (nI 4)]) (rest := []) (wc := [(tk, .inr (3, [.ref kb, .int (nI n)])), (kb, .inl (aB g, 2000, .inl (bf t)))]) (wr := [(x0, .inr (5, [.ref tw, .ref r0, .ref tk, .ref m0, .ref ha, .int (nI cnt), .int (b2 blk), .int pl, .ref tn, .ref bn, .ref w0])), (ha, .inl (aQ g, 12, .inr (.inr (.inr (.inr (fun j => some (xa j)))))))] ++ txs g xa xb y f) C (c_Txt_lowFirst (kl κ) g tk kb n (q1 + ((inZ t n (xI t n (itN (rTx t n) u s2) i)).1)) 4 t (by omega) hT (by omega) (by omega)) Y_Txt_lowFirst ml_Dsk_134 im_Txt_lowFirst sl_Txt_lowFirst rfl ⟨by decide, by decide⟩ rfl (ci := 3) (q0 := 0) rfl rfl rfl (Nat.le_of_ble_eq_true rfl) (by exact j_Sb.app (a := [(x0, .inr (5, [.ref tw, .ref r0, .ref tk, .ref m0, .ref ha, .int (nI cnt), .int (b2 blk), .int pl, .ref tn, .ref bn, .ref w0])), (tk, .inr (3, [.ref kb, .int (nI n)])), (kb, .inl (aB g, 2000, .inl (bf t))), (ha, .inl (aQ g, 12, .inr (.inr (.inr (.inr (fun j => some (xa j)))))))]) (b := [(tk, .inr (3, [.ref kb, .int (nI n)])), (kb, .inl (aB g, 2000, .inl (bf t))), (x0, .inr (5, [.ref tw, .ref r0, .ref tk, .ref m0, .ref ha, .int (nI cnt), .int (b2 blk), .int pl, .ref tn, .ref bn, .ref w0])), (ha, .inl (aQ g, 12, .inr (.inr (.inr (.inr (fun j => some (xa j)))))))]) (j_sb [1, 2, 0, 3] rfl rfl) (txs g xa xb y f)) rfl d_Dsk_input_136 (fun r w1 hO => ?_)
              obtain ⟨rfl, rfl⟩ := hO
              show j_V g κ 0 0 139 [(7, .int (nI ((inZ t n (xI t n (itN (rTx t n) u s2) i)).1))), (6, .int (nI q1)), (5, .int (nI a1)), (4, .ref (xa u)), (0, .ref x0), (1, .int (nI u)), (2, .int (nI i)), (3, .int (nI 4))] [.long (lN (lf t (q1 + ((inZ t n (xI t n (itN (rTx t n) u s2) i)).1)) 4))] ([(tk, .inr (3, [.ref kb, .int (nI n)])), (kb, .inl (aB g, 2000, .inl (bf t))), (x0, .inr (5, [.ref tw, .ref r0, .ref tk, .ref m0, .ref ha, .int (nI cnt), .int (b2 blk), .int pl, .ref tn, .ref bn, .ref w0])), (ha, .inl (aQ g, 12, .inr (.inr (.inr (.inr (fun j => some (xa j)))))))] ++ txs g xa xb y f)
              refine j_sub (ws' := [(x0, .inr (5, [.ref tw, .ref r0, .ref tk, .ref m0, .ref ha, .int (nI cnt), .int (b2 blk), .int pl, .ref tn, .ref bn, .ref w0])), (tk, .inr (3, [.ref kb, .int (nI n)])), (kb, .inl (aB g, 2000, .inl (bf t))), (ha, .inl (aQ g, 12, .inr (.inr (.inr (.inr (fun j => some (xa j)))))))] ++ txs g xa xb y f) (by exact j_Sb.app (a := [(tk, .inr (3, [.ref kb, .int (nI n)])), (kb, .inl (aB g, 2000, .inl (bf t))), (x0, .inr (5, [.ref tw, .ref r0, .ref tk, .ref m0, .ref ha, .int (nI cnt), .int (b2 blk), .int pl, .ref tn, .ref bn, .ref w0])), (ha, .inl (aQ g, 12, .inr (.inr (.inr (.inr (fun j => some (xa j)))))))]) (b := [(x0, .inr (5, [.ref tw, .ref r0, .ref tk, .ref m0, .ref ha, .int (nI cnt), .int (b2 blk), .int pl, .ref tn, .ref bn, .ref w0])), (tk, .inr (3, [.ref kb, .int (nI n)])), (kb, .inl (aB g, 2000, .inl (bf t))), (ha, .inl (aQ g, 12, .inr (.inr (.inr (.inr (fun j => some (xa j)))))))]) (j_sb [2, 0, 1, 3] rfl rfl) (txs g xa xb y f)) ?_
              exact hR.2.1 _ _ _ _ d_Dsk_input_139 rfl (⟨by first | (exfalso; omega) | rw [inR_neg hu] | rw [inR_big hu] | (rw [inR_1 hu (by omega), if_neg (fun z => nlt0 (by assumption) z.1)]) | (rw [inR_1 hu (by omega), if_neg (fun z => nle (by assumption) z.2)]) | (rw [inR_in hu (by omega) hi (by omega)]; unfold inV; first | rw [sel_neg hq] | rw [sel_big hq] | (rw [g2, g1]; rfl)), rfl⟩)
            · skip
              refine j_ldc2 (pc := 25) C k_Dsk_132 d_Dsk_input_25 ?_
              exact hR.2.1 _ _ _ _ d_Dsk_input_28 rfl (⟨by first | (exfalso; omega) | rw [inR_neg hu] | rw [inR_big hu] | (rw [inR_1 hu (by omega), if_neg (fun z => nlt0 (by assumption) z.1)]) | (rw [inR_1 hu (by omega), if_neg (fun z => nle (by assumption) z.2)]) | (rw [inR_in hu (by omega) hi (by omega)]; unfold inV; first | rw [sel_neg hq] | rw [sel_big hq] | (rw [g2, g1]; rfl)), rfl⟩)
abbrev rm_Dsk_output : Room := { frames := 1, cells := 0, slots := 0, locals := 25 }
set_option maxHeartbeats 4000000 in
set_option maxRecDepth 100000 in
theorem c_Dsk_output (l : Launch) (g : JX) (x0 tw tk r0 m0 ha tn bn w0 cnt : Nat) (blk : Bool) (pl : Int32) (kb n : Nat) (xa : Nat → Nat) (xb : Nat → Nat → Nat) (t : Nat → Nat) (s2 : RS) (y : Nat → Nat → Int32) (f : Nat → Nat → Nat → Int32) (tt i0 x : Int32) (hn : n ≤ 2000) (hT : ∀ j, t j < 256) (hc : cnt ≤ 12) (hA : TxAll t n s2 cnt y f) (hE : 0 < cnt → ∃ e0, itN (rTx t n) cnt s2 = .inl e0) : j_Ct l y_Dsk_output b_Dsk_output 5 (some .long) rm_Dsk_output g ([(x0, .inr (5, [.ref tw, .ref r0, .ref tk, .ref m0, .ref ha, .int (nI cnt), .int (b2 blk), .int pl, .ref tn, .ref bn, .ref w0])), (tk, .inr (3, [.ref kb, .int (nI n)])), (kb, .inl (aB g, 2000, .inl (bf t))), (ha, .inl (aQ g, 12, .inr (.inr (.inr (.inr (fun j => some (xa j)))))))] ++ txs g xa xb y f) [.ref x0, .int tt, .int i0, .int x] (fun r w => r = some (.long (outR t n s2 cnt tt i0 x)) ∧ w = [(x0, .inr (5, [.ref tw, .ref r0, .ref tk, .ref m0, .ref ha, .int (nI cnt), .int (b2 blk), .int pl, .ref tn, .ref bn, .ref w0])), (tk, .inr (3, [.ref kb, .int (nI n)])), (kb, .inl (aB g, 2000, .inl (bf t))), (ha, .inl (aQ g, 12, .inr (.inr (.inr (.inr (fun j => some (xa j)))))))] ++ txs g xa xb y f) 0 0 := by
  refine j_ct (by decide) (Nat.le_of_ble_eq_true rfl) (fun κ hkl C hR hI => ?_)
  show j_V g κ 0 0 0 [(0, .ref x0), (1, .int tt), (2, .int i0), (3, .int x)] [] ([(x0, .inr (5, [.ref tw, .ref r0, .ref tk, .ref m0, .ref ha, .int (nI cnt), .int (b2 blk), .int pl, .ref tn, .ref bn, .ref w0])), (tk, .inr (3, [.ref kb, .int (nI n)])), (kb, .inl (aB g, 2000, .inl (bf t))), (ha, .inl (aQ g, 12, .inr (.inr (.inr (.inr (fun j => some (xa j)))))))] ++ txs g xa xb y f)
  rcases pk_ix tt (n := cnt) (by omega) with hu | hu | ⟨u, hu, rfl⟩
  · skip
    show j_V g κ 0 0 0 [(0, .ref x0), (1, .int tt), (2, .int i0), (3, .int x)] [] ([(x0, .inr (5, [.ref tw, .ref r0, .ref tk, .ref m0, .ref ha, .int (nI cnt), .int (b2 blk), .int pl, .ref tn, .ref bn, .ref w0])), (tk, .inr (3, [.ref kb, .int (nI n)])), (kb, .inl (aB g, 2000, .inl (bf t))), (ha, .inl (aQ g, 12, .inr (.inr (.inr (.inr (fun j => some (xa j)))))))] ++ txs g xa xb y f)
    refine j_aload_n (pc := 0) C d_Dsk_output_0 rfl 0 rfl ?_
    refine j_iload_n (pc := 1) C d_Dsk_output_1 rfl 1 rfl ?_
    refine j_callV (pc := 2) (As := [.int tt]) (rest := []) (wc := [(x0, .inr (5, [.ref tw, .ref r0, .ref tk, .ref m0, .ref ha, .int (nI cnt), .int (b2 blk), .int pl, .ref tn, .ref bn, .ref w0]))]) (wr := [(tk, .inr (3, [.ref kb, .int (nI n)])), (kb, .inl (aB g, 2000, .inl (bf t))), (ha, .inl (aQ g, 12, .inr (.inr (.inr (.inr (fun j => some (xa j)))))))] ++ txs g xa xb y f) C (c_Dsk_hasTransaction (kl κ) g x0 tw tk r0 m0 ha tn bn w0 cnt blk pl tt (by omega)) Y_Dsk_hasTransaction ml_Dsk_138 im_Dsk_hasTransaction sl_Dsk_hasTransaction rfl ⟨by decide, by decide⟩ rfl (ci := 5) (q0 := 0) rfl rfl rfl (Nat.le_of_ble_eq_true rfl) (by exact j_Sb.app (a := [(x0, .inr (5, [.ref tw, .ref r0, .ref tk, .ref m0, .ref ha, .int (nI cnt), .int (b2 blk), .int pl, .ref tn, .ref bn, .ref w0])), (tk, .inr (3, [.ref kb, .int (nI n)])), (kb, .inl (aB g, 2000, .inl (bf t))), (ha, .inl (aQ g, 12, .inr (.inr (.inr (.inr (fun j => some (xa j)))))))]) (b := [(x0, .inr (5, [.ref tw, .ref r0, .ref tk, .ref m0, .ref ha, .int (nI cnt), .int (b2 blk), .int pl, .ref tn, .ref bn, .ref w0])), (tk, .inr (3, [.ref kb, .int (nI n)])), (kb, .inl (aB g, 2000, .inl (bf t))), (ha, .inl (aQ g, 12, .inr (.inr (.inr (.inr (fun j => some (xa j)))))))]) (j_sb [0, 1, 2, 3] rfl rfl) (txs g xa xb y f)) rfl d_Dsk_output_2 (fun r w1 hO => ?_)
    obtain ⟨rfl, rfl⟩ := hO
    show j_V g κ 0 0 5 [(0, .ref x0), (1, .int tt), (2, .int i0), (3, .int x)] [.int (if 0 ≤ tt ∧ tt < nI cnt then (1 : Int32) else 0)] ([(x0, .inr (5, [.ref tw, .ref r0, .ref tk, .ref m0, .ref ha, .int (nI cnt), .int (b2 blk), .int pl, .ref tn, .ref bn, .ref w0])), (tk, .inr (3, [.ref kb, .int (nI n)])), (kb, .inl (aB g, 2000, .inl (bf t))), (ha, .inl (aQ g, 12, .inr (.inr (.inr (.inr (fun j => some (xa j)))))))] ++ txs g xa xb y f)
    refine j_if_eqB (pc := 5) (tgt := 25) C d_Dsk_output_5 rfl (fun c5 => ?_) (fun c5 => ?_)
    · skip
      refine j_ldc2 (pc := 25) C k_Dsk_132 d_Dsk_output_25 ?_
      exact hR.2.1 _ _ _ _ d_Dsk_output_28 rfl (⟨by first | (exfalso; omega) | rw [outR_neg hu] | rw [outR_big hu] | (rw [outR_1 hu (by omega), if_neg (fun z => nlt0 (by assumption) z.1)]) | (rw [outR_1 hu (by omega), if_neg (fun z => nle (by assumption) z.2)]) | (rw [outR_in hu (by omega) hi (by omega)]; unfold outV; first | rw [sel_neg hq] | rw [sel_big hq] | (rw [g2, g1]; rfl)), rfl⟩)
    · skip
      first | exact absurd c5.1 (nlt0 hu) | exact absurd c5.2 (nle hu)
  · skip
    show j_V g κ 0 0 0 [(0, .ref x0), (1, .int tt), (2, .int i0), (3, .int x)] [] ([(x0, .inr (5, [.ref tw, .ref r0, .ref tk, .ref m0, .ref ha, .int (nI cnt), .int (b2 blk), .int pl, .ref tn, .ref bn, .ref w0])), (tk, .inr (3, [.ref kb, .int (nI n)])), (kb, .inl (aB g, 2000, .inl (bf t))), (ha, .inl (aQ g, 12, .inr (.inr (.inr (.inr (fun j => some (xa j)))))))] ++ txs g xa xb y f)
    refine j_aload_n (pc := 0) C d_Dsk_output_0 rfl 0 rfl ?_
    refine j_iload_n (pc := 1) C d_Dsk_output_1 rfl 1 rfl ?_
    refine j_callV (pc := 2) (As := [.int tt]) (rest := []) (wc := [(x0, .inr (5, [.ref tw, .ref r0, .ref tk, .ref m0, .ref ha, .int (nI cnt), .int (b2 blk), .int pl, .ref tn, .ref bn, .ref w0]))]) (wr := [(tk, .inr (3, [.ref kb, .int (nI n)])), (kb, .inl (aB g, 2000, .inl (bf t))), (ha, .inl (aQ g, 12, .inr (.inr (.inr (.inr (fun j => some (xa j)))))))] ++ txs g xa xb y f) C (c_Dsk_hasTransaction (kl κ) g x0 tw tk r0 m0 ha tn bn w0 cnt blk pl tt (by omega)) Y_Dsk_hasTransaction ml_Dsk_138 im_Dsk_hasTransaction sl_Dsk_hasTransaction rfl ⟨by decide, by decide⟩ rfl (ci := 5) (q0 := 0) rfl rfl rfl (Nat.le_of_ble_eq_true rfl) (by exact j_Sb.app (a := [(x0, .inr (5, [.ref tw, .ref r0, .ref tk, .ref m0, .ref ha, .int (nI cnt), .int (b2 blk), .int pl, .ref tn, .ref bn, .ref w0])), (tk, .inr (3, [.ref kb, .int (nI n)])), (kb, .inl (aB g, 2000, .inl (bf t))), (ha, .inl (aQ g, 12, .inr (.inr (.inr (.inr (fun j => some (xa j)))))))]) (b := [(x0, .inr (5, [.ref tw, .ref r0, .ref tk, .ref m0, .ref ha, .int (nI cnt), .int (b2 blk), .int pl, .ref tn, .ref bn, .ref w0])), (tk, .inr (3, [.ref kb, .int (nI n)])), (kb, .inl (aB g, 2000, .inl (bf t))), (ha, .inl (aQ g, 12, .inr (.inr (.inr (.inr (fun j => some (xa j)))))))]) (j_sb [0, 1, 2, 3] rfl rfl) (txs g xa xb y f)) rfl d_Dsk_output_2 (fun r w1 hO => ?_)
    obtain ⟨rfl, rfl⟩ := hO
    show j_V g κ 0 0 5 [(0, .ref x0), (1, .int tt), (2, .int i0), (3, .int x)] [.int (if 0 ≤ tt ∧ tt < nI cnt then (1 : Int32) else 0)] ([(x0, .inr (5, [.ref tw, .ref r0, .ref tk, .ref m0, .ref ha, .int (nI cnt), .int (b2 blk), .int pl, .ref tn, .ref bn, .ref w0])), (tk, .inr (3, [.ref kb, .int (nI n)])), (kb, .inl (aB g, 2000, .inl (bf t))), (ha, .inl (aQ g, 12, .inr (.inr (.inr (.inr (fun j => some (xa j)))))))] ++ txs g xa xb y f)
    refine j_if_eqB (pc := 5) (tgt := 25) C d_Dsk_output_5 rfl (fun c5 => ?_) (fun c5 => ?_)
    · skip
      refine j_ldc2 (pc := 25) C k_Dsk_132 d_Dsk_output_25 ?_
      exact hR.2.1 _ _ _ _ d_Dsk_output_28 rfl (⟨by first | (exfalso; omega) | rw [outR_neg hu] | rw [outR_big hu] | (rw [outR_1 hu (by omega), if_neg (fun z => nlt0 (by assumption) z.1)]) | (rw [outR_1 hu (by omega), if_neg (fun z => nle (by assumption) z.2)]) | (rw [outR_in hu (by omega) hi (by omega)]; unfold outV; first | rw [sel_neg hq] | rw [sel_big hq] | (rw [g2, g1]; rfl)), rfl⟩)
    · skip
      first | exact absurd c5.1 (nlt0 hu) | exact absurd c5.2 (nle hu)
  · skip
    obtain ⟨e0, hE0⟩ := hE (by omega)
    obtain ⟨b, e, hb, he, hbe, hen, he4⟩ := tx_st hE0 hu
    obtain ⟨h0, h1, h2, h3, hHi, hHo⟩ := hA u hu e he
    have hz8 : (xZ t n (itN (rTx t n) u s2)).1 ≤ 8 := rSize_le
    have hy8 : (xY t n (itN (rTx t n) u s2)).1 ≤ 8 := rSize_le
    rcases pk_ix i0 (n := (xY t n (itN (rTx t n) u s2)).1) (by omega) with hi | hi | ⟨i, hi, rfl⟩
    · skip
      show j_V g κ 0 0 0 [(0, .ref x0), (1, .int (nI u)), (2, .int i0), (3, .int x)] [] ([(x0, .inr (5, [.ref tw, .ref r0, .ref tk, .ref m0, .ref ha, .int (nI cnt), .int (b2 blk), .int pl, .ref tn, .ref bn, .ref w0])), (tk, .inr (3, [.ref kb, .int (nI n)])), (kb, .inl (aB g, 2000, .inl (bf t))), (ha, .inl (aQ g, 12, .inr (.inr (.inr (.inr (fun j => some (xa j)))))))] ++ txs g xa xb y f)
      refine j_aload_n (pc := 0) C d_Dsk_output_0 rfl 0 rfl ?_
      refine j_iload_n (pc := 1) C d_Dsk_output_1 rfl 1 rfl ?_
      refine j_callV (pc := 2) (As := [.int (nI u)]) (rest := []) (wc := [(x0, .inr (5, [.ref tw, .ref r0, .ref tk, .ref m0, .ref ha, .int (nI cnt), .int (b2 blk), .int pl, .ref tn, .ref bn, .ref w0]))]) (wr := [(tk, .inr (3, [.ref kb, .int (nI n)])), (kb, .inl (aB g, 2000, .inl (bf t))), (ha, .inl (aQ g, 12, .inr (.inr (.inr (.inr (fun j => some (xa j)))))))] ++ txs g xa xb y f) C (c_Dsk_hasTransaction (kl κ) g x0 tw tk r0 m0 ha tn bn w0 cnt blk pl (nI u) (by omega)) Y_Dsk_hasTransaction ml_Dsk_138 im_Dsk_hasTransaction sl_Dsk_hasTransaction rfl ⟨by decide, by decide⟩ rfl (ci := 5) (q0 := 0) rfl rfl rfl (Nat.le_of_ble_eq_true rfl) (by exact j_Sb.app (a := [(x0, .inr (5, [.ref tw, .ref r0, .ref tk, .ref m0, .ref ha, .int (nI cnt), .int (b2 blk), .int pl, .ref tn, .ref bn, .ref w0])), (tk, .inr (3, [.ref kb, .int (nI n)])), (kb, .inl (aB g, 2000, .inl (bf t))), (ha, .inl (aQ g, 12, .inr (.inr (.inr (.inr (fun j => some (xa j)))))))]) (b := [(x0, .inr (5, [.ref tw, .ref r0, .ref tk, .ref m0, .ref ha, .int (nI cnt), .int (b2 blk), .int pl, .ref tn, .ref bn, .ref w0])), (tk, .inr (3, [.ref kb, .int (nI n)])), (kb, .inl (aB g, 2000, .inl (bf t))), (ha, .inl (aQ g, 12, .inr (.inr (.inr (.inr (fun j => some (xa j)))))))]) (j_sb [0, 1, 2, 3] rfl rfl) (txs g xa xb y f)) rfl d_Dsk_output_2 (fun r w1 hO => ?_)
      obtain ⟨rfl, rfl⟩ := hO
      show j_V g κ 0 0 5 [(0, .ref x0), (1, .int (nI u)), (2, .int i0), (3, .int x)] [.int (if 0 ≤ nI u ∧ nI u < nI cnt then (1 : Int32) else 0)] ([(x0, .inr (5, [.ref tw, .ref r0, .ref tk, .ref m0, .ref ha, .int (nI cnt), .int (b2 blk), .int pl, .ref tn, .ref bn, .ref w0])), (tk, .inr (3, [.ref kb, .int (nI n)])), (kb, .inl (aB g, 2000, .inl (bf t))), (ha, .inl (aQ g, 12, .inr (.inr (.inr (.inr (fun j => some (xa j)))))))] ++ txs g xa xb y f)
      refine j_if_eqB (pc := 5) (tgt := 25) C d_Dsk_output_5 rfl (fun c5 => ?_) (fun c5 => ?_)
      · skip
        exact absurd ⟨nI_pos' (by omega), nI_lt hu (by omega)⟩ c5
      · skip
        refine j_iload_n (pc := 8) C d_Dsk_output_8 rfl 2 rfl ?_
        refine j_if_lt (pc := 9) (tgt := 25) C d_Dsk_output_9 rfl (fun c9 => ?_) (fun c9 => ?_)
        · skip
          refine j_ldc2 (pc := 25) C k_Dsk_132 d_Dsk_output_25 ?_
          exact hR.2.1 _ _ _ _ d_Dsk_output_28 rfl (⟨by first | (exfalso; omega) | rw [outR_neg hu] | rw [outR_big hu] | (rw [outR_1 hu (by omega), if_neg (fun z => nlt0 (by assumption) z.1)]) | (rw [outR_1 hu (by omega), if_neg (fun z => nle (by assumption) z.2)]) | (rw [outR_in hu (by omega) hi (by omega)]; unfold outV; first | rw [sel_neg hq] | rw [sel_big hq] | (rw [g2, g1]; rfl)), rfl⟩)
        · skip
          refine j_iload_n (pc := 12) C d_Dsk_output_12 rfl 2 rfl ?_
          refine j_aload_n (pc := 13) C d_Dsk_output_13 rfl 0 rfl ?_
          refine j_get (pc := 14) C F_Dsk_38 0 rfl rfl d_Dsk_output_14 ?_
          refine j_iload_n (pc := 17) C d_Dsk_output_17 rfl 1 rfl ?_
          refine j_aaldN (pc := 18) (b := xa u) C 3 2 rfl rfl (by omega) (by omega) rfl d_Dsk_output_18 ?_
          refine j_getM (pc := 19) C F_Dsk_146 (List.mem_append_right _ (txs_mem (u := u) (by omega) txc_0)) rfl d_Dsk_output_19 ?_
          refine j_rwi (y := nI ((xY t n (itN (rTx t n) u s2)).1)) (h3) ?_
          refine j_icmp_lt (pc := 22) (tgt := 29) C d_Dsk_output_22 rfl (fun c22 => ?_) (fun c22 => ?_)
          · skip
            first | exact absurd hi c9 | exact absurd c22 (nle hi)
          · skip
            refine j_ldc2 (pc := 25) C k_Dsk_132 d_Dsk_output_25 ?_
            exact hR.2.1 _ _ _ _ d_Dsk_output_28 rfl (⟨by first | (exfalso; omega) | rw [outR_neg hu] | rw [outR_big hu] | (rw [outR_1 hu (by omega), if_neg (fun z => nlt0 (by assumption) z.1)]) | (rw [outR_1 hu (by omega), if_neg (fun z => nle (by assumption) z.2)]) | (rw [outR_in hu (by omega) hi (by omega)]; unfold outV; first | rw [sel_neg hq] | rw [sel_big hq] | (rw [g2, g1]; rfl)), rfl⟩)
    · skip
      show j_V g κ 0 0 0 [(0, .ref x0), (1, .int (nI u)), (2, .int i0), (3, .int x)] [] ([(x0, .inr (5, [.ref tw, .ref r0, .ref tk, .ref m0, .ref ha, .int (nI cnt), .int (b2 blk), .int pl, .ref tn, .ref bn, .ref w0])), (tk, .inr (3, [.ref kb, .int (nI n)])), (kb, .inl (aB g, 2000, .inl (bf t))), (ha, .inl (aQ g, 12, .inr (.inr (.inr (.inr (fun j => some (xa j)))))))] ++ txs g xa xb y f)
      refine j_aload_n (pc := 0) C d_Dsk_output_0 rfl 0 rfl ?_
      refine j_iload_n (pc := 1) C d_Dsk_output_1 rfl 1 rfl ?_
      refine j_callV (pc := 2) (As := [.int (nI u)]) (rest := []) (wc := [(x0, .inr (5, [.ref tw, .ref r0, .ref tk, .ref m0, .ref ha, .int (nI cnt), .int (b2 blk), .int pl, .ref tn, .ref bn, .ref w0]))]) (wr := [(tk, .inr (3, [.ref kb, .int (nI n)])), (kb, .inl (aB g, 2000, .inl (bf t))), (ha, .inl (aQ g, 12, .inr (.inr (.inr (.inr (fun j => some (xa j)))))))] ++ txs g xa xb y f) C (c_Dsk_hasTransaction (kl κ) g x0 tw tk r0 m0 ha tn bn w0 cnt blk pl (nI u) (by omega)) Y_Dsk_hasTransaction ml_Dsk_138 im_Dsk_hasTransaction sl_Dsk_hasTransaction rfl ⟨by decide, by decide⟩ rfl (ci := 5) (q0 := 0) rfl rfl rfl (Nat.le_of_ble_eq_true rfl) (by exact j_Sb.app (a := [(x0, .inr (5, [.ref tw, .ref r0, .ref tk, .ref m0, .ref ha, .int (nI cnt), .int (b2 blk), .int pl, .ref tn, .ref bn, .ref w0])), (tk, .inr (3, [.ref kb, .int (nI n)])), (kb, .inl (aB g, 2000, .inl (bf t))), (ha, .inl (aQ g, 12, .inr (.inr (.inr (.inr (fun j => some (xa j)))))))]) (b := [(x0, .inr (5, [.ref tw, .ref r0, .ref tk, .ref m0, .ref ha, .int (nI cnt), .int (b2 blk), .int pl, .ref tn, .ref bn, .ref w0])), (tk, .inr (3, [.ref kb, .int (nI n)])), (kb, .inl (aB g, 2000, .inl (bf t))), (ha, .inl (aQ g, 12, .inr (.inr (.inr (.inr (fun j => some (xa j)))))))]) (j_sb [0, 1, 2, 3] rfl rfl) (txs g xa xb y f)) rfl d_Dsk_output_2 (fun r w1 hO => ?_)
      obtain ⟨rfl, rfl⟩ := hO
      show j_V g κ 0 0 5 [(0, .ref x0), (1, .int (nI u)), (2, .int i0), (3, .int x)] [.int (if 0 ≤ nI u ∧ nI u < nI cnt then (1 : Int32) else 0)] ([(x0, .inr (5, [.ref tw, .ref r0, .ref tk, .ref m0, .ref ha, .int (nI cnt), .int (b2 blk), .int pl, .ref tn, .ref bn, .ref w0])), (tk, .inr (3, [.ref kb, .int (nI n)])), (kb, .inl (aB g, 2000, .inl (bf t))), (ha, .inl (aQ g, 12, .inr (.inr (.inr (.inr (fun j => some (xa j)))))))] ++ txs g xa xb y f)
      refine j_if_eqB (pc := 5) (tgt := 25) C d_Dsk_output_5 rfl (fun c5 => ?_) (fun c5 => ?_)
      · skip
        exact absurd ⟨nI_pos' (by omega), nI_lt hu (by omega)⟩ c5
      · skip
        refine j_iload_n (pc := 8) C d_Dsk_output_8 rfl 2 rfl ?_
        refine j_if_lt (pc := 9) (tgt := 25) C d_Dsk_output_9 rfl (fun c9 => ?_) (fun c9 => ?_)
        · skip
          refine j_ldc2 (pc := 25) C k_Dsk_132 d_Dsk_output_25 ?_
          exact hR.2.1 _ _ _ _ d_Dsk_output_28 rfl (⟨by first | (exfalso; omega) | rw [outR_neg hu] | rw [outR_big hu] | (rw [outR_1 hu (by omega), if_neg (fun z => nlt0 (by assumption) z.1)]) | (rw [outR_1 hu (by omega), if_neg (fun z => nle (by assumption) z.2)]) | (rw [outR_in hu (by omega) hi (by omega)]; unfold outV; first | rw [sel_neg hq] | rw [sel_big hq] | (rw [g2, g1]; rfl)), rfl⟩)
        · skip
          refine j_iload_n (pc := 12) C d_Dsk_output_12 rfl 2 rfl ?_
          refine j_aload_n (pc := 13) C d_Dsk_output_13 rfl 0 rfl ?_
          refine j_get (pc := 14) C F_Dsk_38 0 rfl rfl d_Dsk_output_14 ?_
          refine j_iload_n (pc := 17) C d_Dsk_output_17 rfl 1 rfl ?_
          refine j_aaldN (pc := 18) (b := xa u) C 3 2 rfl rfl (by omega) (by omega) rfl d_Dsk_output_18 ?_
          refine j_getM (pc := 19) C F_Dsk_146 (List.mem_append_right _ (txs_mem (u := u) (by omega) txc_0)) rfl d_Dsk_output_19 ?_
          refine j_rwi (y := nI ((xY t n (itN (rTx t n) u s2)).1)) (h3) ?_
          refine j_icmp_lt (pc := 22) (tgt := 29) C d_Dsk_output_22 rfl (fun c22 => ?_) (fun c22 => ?_)
          · skip
            first | exact absurd hi c9 | exact absurd c22 (nle hi)
          · skip
            refine j_ldc2 (pc := 25) C k_Dsk_132 d_Dsk_output_25 ?_
            exact hR.2.1 _ _ _ _ d_Dsk_output_28 rfl (⟨by first | (exfalso; omega) | rw [outR_neg hu] | rw [outR_big hu] | (rw [outR_1 hu (by omega), if_neg (fun z => nlt0 (by assumption) z.1)]) | (rw [outR_1 hu (by omega), if_neg (fun z => nle (by assumption) z.2)]) | (rw [outR_in hu (by omega) hi (by omega)]; unfold outV; first | rw [sel_neg hq] | rw [sel_big hq] | (rw [g2, g1]; rfl)), rfl⟩)
    · skip
      obtain ⟨a1, q1, p1, g1, g2, g3, g4, g5, g6⟩ := out_st he hi
      obtain ⟨k1, k2, k3⟩ := hHo i hi p1 g3
      have hl200 : (outZ t n (xO t n (itN (rTx t n) u s2) i)).1 ≤ 200 := rSize_le
      rcases pk_ix x (n := 3) (by decide) with hq | hq | ⟨q, hq, rfl⟩
      · skip
        show j_V g κ 0 0 0 [(0, .ref x0), (1, .int (nI u)), (2, .int (nI i)), (3, .int x)] [] ([(x0, .inr (5, [.ref tw, .ref r0, .ref tk, .ref m0, .ref ha, .int (nI cnt), .int (b2 blk), .int pl, .ref tn, .ref bn, .ref w0])), (tk, .inr (3, [.ref kb, .int (nI n)])), (kb, .inl (aB g, 2000, .inl (bf t))), (ha, .inl (aQ g, 12, .inr (.inr (.inr (.inr (fun j => some (xa j)))))))] ++ txs g xa xb y f)
        refine j_aload_n (pc := 0) C d_Dsk_output_0 rfl 0 rfl ?_
        refine j_iload_n (pc := 1) C d_Dsk_output_1 rfl 1 rfl ?_
        refine j_callV (pc := 2) (As := [.int (nI u)]) (rest := []) (wc := [(x0, .inr (5, [.ref tw, .ref r0, .ref tk, .ref m0, .ref ha, .int (nI cnt), .int (b2 blk), .int pl, .ref tn, .ref bn, .ref w0]))]) (wr := [(tk, .inr (3, [.ref kb, .int (nI n)])), (kb, .inl (aB g, 2000, .inl (bf t))), (ha, .inl (aQ g, 12, .inr (.inr (.inr (.inr (fun j => some (xa j)))))))] ++ txs g xa xb y f) C (c_Dsk_hasTransaction (kl κ) g x0 tw tk r0 m0 ha tn bn w0 cnt blk pl (nI u) (by omega)) Y_Dsk_hasTransaction ml_Dsk_138 im_Dsk_hasTransaction sl_Dsk_hasTransaction rfl ⟨by decide, by decide⟩ rfl (ci := 5) (q0 := 0) rfl rfl rfl (Nat.le_of_ble_eq_true rfl) (by exact j_Sb.app (a := [(x0, .inr (5, [.ref tw, .ref r0, .ref tk, .ref m0, .ref ha, .int (nI cnt), .int (b2 blk), .int pl, .ref tn, .ref bn, .ref w0])), (tk, .inr (3, [.ref kb, .int (nI n)])), (kb, .inl (aB g, 2000, .inl (bf t))), (ha, .inl (aQ g, 12, .inr (.inr (.inr (.inr (fun j => some (xa j)))))))]) (b := [(x0, .inr (5, [.ref tw, .ref r0, .ref tk, .ref m0, .ref ha, .int (nI cnt), .int (b2 blk), .int pl, .ref tn, .ref bn, .ref w0])), (tk, .inr (3, [.ref kb, .int (nI n)])), (kb, .inl (aB g, 2000, .inl (bf t))), (ha, .inl (aQ g, 12, .inr (.inr (.inr (.inr (fun j => some (xa j)))))))]) (j_sb [0, 1, 2, 3] rfl rfl) (txs g xa xb y f)) rfl d_Dsk_output_2 (fun r w1 hO => ?_)
        obtain ⟨rfl, rfl⟩ := hO
        show j_V g κ 0 0 5 [(0, .ref x0), (1, .int (nI u)), (2, .int (nI i)), (3, .int x)] [.int (if 0 ≤ nI u ∧ nI u < nI cnt then (1 : Int32) else 0)] ([(x0, .inr (5, [.ref tw, .ref r0, .ref tk, .ref m0, .ref ha, .int (nI cnt), .int (b2 blk), .int pl, .ref tn, .ref bn, .ref w0])), (tk, .inr (3, [.ref kb, .int (nI n)])), (kb, .inl (aB g, 2000, .inl (bf t))), (ha, .inl (aQ g, 12, .inr (.inr (.inr (.inr (fun j => some (xa j)))))))] ++ txs g xa xb y f)
        refine j_if_eqB (pc := 5) (tgt := 25) C d_Dsk_output_5 rfl (fun c5 => ?_) (fun c5 => ?_)
        · skip
          exact absurd ⟨nI_pos' (by omega), nI_lt hu (by omega)⟩ c5
        · skip
          refine j_iload_n (pc := 8) C d_Dsk_output_8 rfl 2 rfl ?_
          refine j_if_ltN (pc := 9) (tgt := 25) C (by omega) d_Dsk_output_9 rfl ?_
          refine j_iload_n (pc := 12) C d_Dsk_output_12 rfl 2 rfl ?_
          refine j_aload_n (pc := 13) C d_Dsk_output_13 rfl 0 rfl ?_
          refine j_get (pc := 14) C F_Dsk_38 0 rfl rfl d_Dsk_output_14 ?_
          refine j_iload_n (pc := 17) C d_Dsk_output_17 rfl 1 rfl ?_
          refine j_aaldN (pc := 18) (b := xa u) C 3 2 rfl rfl (by omega) (by omega) rfl d_Dsk_output_18 ?_
          refine j_getM (pc := 19) C F_Dsk_146 (List.mem_append_right _ (txs_mem (u := u) (by omega) txc_0)) rfl d_Dsk_output_19 ?_
          refine j_rwi (y := nI ((xY t n (itN (rTx t n) u s2)).1)) (h3) ?_
          refine j_icmp_ltN (pc := 22) (tgt := 29) C (by omega) (by omega) d_Dsk_output_22 rfl (fun c22 => ?_) (fun c22 => ?_)
          · skip
            refine j_aload_n (pc := 29) C d_Dsk_output_29 rfl 0 rfl ?_
            refine j_get (pc := 30) C F_Dsk_38 0 rfl rfl d_Dsk_output_30 ?_
            refine j_iload_n (pc := 33) C d_Dsk_output_33 rfl 1 rfl ?_
            refine j_aaldN (pc := 34) (b := xa u) C 3 2 rfl rfl (by omega) (by omega) rfl d_Dsk_output_34 ?_
            refine j_astore (pc := 35) (lv' := [(4, .ref (xa u)), (0, .ref x0), (1, .int (nI u)), (2, .int (nI i)), (3, .int x)]) C d_Dsk_output_35 (by decide) rfl ?_
            refine j_iload_n (pc := 37) C d_Dsk_output_37 rfl 4 rfl ?_
            refine j_tableOut (pc := 38) (tgt := 99) C d_Dsk_output_38 (Or.inl (ts_neg hq)) (by decide) ?_
            refine j_ldc2 (pc := 99) C k_Dsk_132 d_Dsk_output_99 ?_
            exact hR.2.1 _ _ _ _ d_Dsk_output_102 rfl (⟨by first | (exfalso; omega) | rw [outR_neg hu] | rw [outR_big hu] | (rw [outR_1 hu (by omega), if_neg (fun z => nlt0 (by assumption) z.1)]) | (rw [outR_1 hu (by omega), if_neg (fun z => nle (by assumption) z.2)]) | (rw [outR_in hu (by omega) hi (by omega)]; unfold outV; first | rw [sel_neg hq] | rw [sel_big hq] | (rw [g2, g1]; rfl)), rfl⟩)
          · skip
            refine j_ldc2 (pc := 25) C k_Dsk_132 d_Dsk_output_25 ?_
            exact hR.2.1 _ _ _ _ d_Dsk_output_28 rfl (⟨by first | (exfalso; omega) | rw [outR_neg hu] | rw [outR_big hu] | (rw [outR_1 hu (by omega), if_neg (fun z => nlt0 (by assumption) z.1)]) | (rw [outR_1 hu (by omega), if_neg (fun z => nle (by assumption) z.2)]) | (rw [outR_in hu (by omega) hi (by omega)]; unfold outV; first | rw [sel_neg hq] | rw [sel_big hq] | (rw [g2, g1]; rfl)), rfl⟩)
      · skip
        show j_V g κ 0 0 0 [(0, .ref x0), (1, .int (nI u)), (2, .int (nI i)), (3, .int x)] [] ([(x0, .inr (5, [.ref tw, .ref r0, .ref tk, .ref m0, .ref ha, .int (nI cnt), .int (b2 blk), .int pl, .ref tn, .ref bn, .ref w0])), (tk, .inr (3, [.ref kb, .int (nI n)])), (kb, .inl (aB g, 2000, .inl (bf t))), (ha, .inl (aQ g, 12, .inr (.inr (.inr (.inr (fun j => some (xa j)))))))] ++ txs g xa xb y f)
        refine j_aload_n (pc := 0) C d_Dsk_output_0 rfl 0 rfl ?_
        refine j_iload_n (pc := 1) C d_Dsk_output_1 rfl 1 rfl ?_
        refine j_callV (pc := 2) (As := [.int (nI u)]) (rest := []) (wc := [(x0, .inr (5, [.ref tw, .ref r0, .ref tk, .ref m0, .ref ha, .int (nI cnt), .int (b2 blk), .int pl, .ref tn, .ref bn, .ref w0]))]) (wr := [(tk, .inr (3, [.ref kb, .int (nI n)])), (kb, .inl (aB g, 2000, .inl (bf t))), (ha, .inl (aQ g, 12, .inr (.inr (.inr (.inr (fun j => some (xa j)))))))] ++ txs g xa xb y f) C (c_Dsk_hasTransaction (kl κ) g x0 tw tk r0 m0 ha tn bn w0 cnt blk pl (nI u) (by omega)) Y_Dsk_hasTransaction ml_Dsk_138 im_Dsk_hasTransaction sl_Dsk_hasTransaction rfl ⟨by decide, by decide⟩ rfl (ci := 5) (q0 := 0) rfl rfl rfl (Nat.le_of_ble_eq_true rfl) (by exact j_Sb.app (a := [(x0, .inr (5, [.ref tw, .ref r0, .ref tk, .ref m0, .ref ha, .int (nI cnt), .int (b2 blk), .int pl, .ref tn, .ref bn, .ref w0])), (tk, .inr (3, [.ref kb, .int (nI n)])), (kb, .inl (aB g, 2000, .inl (bf t))), (ha, .inl (aQ g, 12, .inr (.inr (.inr (.inr (fun j => some (xa j)))))))]) (b := [(x0, .inr (5, [.ref tw, .ref r0, .ref tk, .ref m0, .ref ha, .int (nI cnt), .int (b2 blk), .int pl, .ref tn, .ref bn, .ref w0])), (tk, .inr (3, [.ref kb, .int (nI n)])), (kb, .inl (aB g, 2000, .inl (bf t))), (ha, .inl (aQ g, 12, .inr (.inr (.inr (.inr (fun j => some (xa j)))))))]) (j_sb [0, 1, 2, 3] rfl rfl) (txs g xa xb y f)) rfl d_Dsk_output_2 (fun r w1 hO => ?_)
        obtain ⟨rfl, rfl⟩ := hO
        show j_V g κ 0 0 5 [(0, .ref x0), (1, .int (nI u)), (2, .int (nI i)), (3, .int x)] [.int (if 0 ≤ nI u ∧ nI u < nI cnt then (1 : Int32) else 0)] ([(x0, .inr (5, [.ref tw, .ref r0, .ref tk, .ref m0, .ref ha, .int (nI cnt), .int (b2 blk), .int pl, .ref tn, .ref bn, .ref w0])), (tk, .inr (3, [.ref kb, .int (nI n)])), (kb, .inl (aB g, 2000, .inl (bf t))), (ha, .inl (aQ g, 12, .inr (.inr (.inr (.inr (fun j => some (xa j)))))))] ++ txs g xa xb y f)
        refine j_if_eqB (pc := 5) (tgt := 25) C d_Dsk_output_5 rfl (fun c5 => ?_) (fun c5 => ?_)
        · skip
          exact absurd ⟨nI_pos' (by omega), nI_lt hu (by omega)⟩ c5
        · skip
          refine j_iload_n (pc := 8) C d_Dsk_output_8 rfl 2 rfl ?_
          refine j_if_ltN (pc := 9) (tgt := 25) C (by omega) d_Dsk_output_9 rfl ?_
          refine j_iload_n (pc := 12) C d_Dsk_output_12 rfl 2 rfl ?_
          refine j_aload_n (pc := 13) C d_Dsk_output_13 rfl 0 rfl ?_
          refine j_get (pc := 14) C F_Dsk_38 0 rfl rfl d_Dsk_output_14 ?_
          refine j_iload_n (pc := 17) C d_Dsk_output_17 rfl 1 rfl ?_
          refine j_aaldN (pc := 18) (b := xa u) C 3 2 rfl rfl (by omega) (by omega) rfl d_Dsk_output_18 ?_
          refine j_getM (pc := 19) C F_Dsk_146 (List.mem_append_right _ (txs_mem (u := u) (by omega) txc_0)) rfl d_Dsk_output_19 ?_
          refine j_rwi (y := nI ((xY t n (itN (rTx t n) u s2)).1)) (h3) ?_
          refine j_icmp_ltN (pc := 22) (tgt := 29) C (by omega) (by omega) d_Dsk_output_22 rfl (fun c22 => ?_) (fun c22 => ?_)
          · skip
            refine j_aload_n (pc := 29) C d_Dsk_output_29 rfl 0 rfl ?_
            refine j_get (pc := 30) C F_Dsk_38 0 rfl rfl d_Dsk_output_30 ?_
            refine j_iload_n (pc := 33) C d_Dsk_output_33 rfl 1 rfl ?_
            refine j_aaldN (pc := 34) (b := xa u) C 3 2 rfl rfl (by omega) (by omega) rfl d_Dsk_output_34 ?_
            refine j_astore (pc := 35) (lv' := [(4, .ref (xa u)), (0, .ref x0), (1, .int (nI u)), (2, .int (nI i)), (3, .int x)]) C d_Dsk_output_35 (by decide) rfl ?_
            refine j_iload_n (pc := 37) C d_Dsk_output_37 rfl 4 rfl ?_
            refine j_tableOut (pc := 38) (tgt := 99) C d_Dsk_output_38 (Or.inr (ts_big (k := 2) (by decide) hq)) (by decide) ?_
            refine j_ldc2 (pc := 99) C k_Dsk_132 d_Dsk_output_99 ?_
            exact hR.2.1 _ _ _ _ d_Dsk_output_102 rfl (⟨by first | (exfalso; omega) | rw [outR_neg hu] | rw [outR_big hu] | (rw [outR_1 hu (by omega), if_neg (fun z => nlt0 (by assumption) z.1)]) | (rw [outR_1 hu (by omega), if_neg (fun z => nle (by assumption) z.2)]) | (rw [outR_in hu (by omega) hi (by omega)]; unfold outV; first | rw [sel_neg hq] | rw [sel_big hq] | (rw [g2, g1]; rfl)), rfl⟩)
          · skip
            refine j_ldc2 (pc := 25) C k_Dsk_132 d_Dsk_output_25 ?_
            exact hR.2.1 _ _ _ _ d_Dsk_output_28 rfl (⟨by first | (exfalso; omega) | rw [outR_neg hu] | rw [outR_big hu] | (rw [outR_1 hu (by omega), if_neg (fun z => nlt0 (by assumption) z.1)]) | (rw [outR_1 hu (by omega), if_neg (fun z => nle (by assumption) z.2)]) | (rw [outR_in hu (by omega) hi (by omega)]; unfold outV; first | rw [sel_neg hq] | rw [sel_big hq] | (rw [g2, g1]; rfl)), rfl⟩)
      · skip
        rcases (by omega : q = 0 ∨ q = 1 ∨ q = 2) with rfl | rfl | rfl
        · skip
          show j_V g κ 0 0 0 [(0, .ref x0), (1, .int (nI u)), (2, .int (nI i)), (3, .int (nI 0))] [] ([(x0, .inr (5, [.ref tw, .ref r0, .ref tk, .ref m0, .ref ha, .int (nI cnt), .int (b2 blk), .int pl, .ref tn, .ref bn, .ref w0])), (tk, .inr (3, [.ref kb, .int (nI n)])), (kb, .inl (aB g, 2000, .inl (bf t))), (ha, .inl (aQ g, 12, .inr (.inr (.inr (.inr (fun j => some (xa j)))))))] ++ txs g xa xb y f)
          refine j_aload_n (pc := 0) C d_Dsk_output_0 rfl 0 rfl ?_
          refine j_iload_n (pc := 1) C d_Dsk_output_1 rfl 1 rfl ?_
          refine j_callV (pc := 2) (As := [.int (nI u)]) (rest := []) (wc := [(x0, .inr (5, [.ref tw, .ref r0, .ref tk, .ref m0, .ref ha, .int (nI cnt), .int (b2 blk), .int pl, .ref tn, .ref bn, .ref w0]))]) (wr := [(tk, .inr (3, [.ref kb, .int (nI n)])), (kb, .inl (aB g, 2000, .inl (bf t))), (ha, .inl (aQ g, 12, .inr (.inr (.inr (.inr (fun j => some (xa j)))))))] ++ txs g xa xb y f) C (c_Dsk_hasTransaction (kl κ) g x0 tw tk r0 m0 ha tn bn w0 cnt blk pl (nI u) (by omega)) Y_Dsk_hasTransaction ml_Dsk_138 im_Dsk_hasTransaction sl_Dsk_hasTransaction rfl ⟨by decide, by decide⟩ rfl (ci := 5) (q0 := 0) rfl rfl rfl (Nat.le_of_ble_eq_true rfl) (by exact j_Sb.app (a := [(x0, .inr (5, [.ref tw, .ref r0, .ref tk, .ref m0, .ref ha, .int (nI cnt), .int (b2 blk), .int pl, .ref tn, .ref bn, .ref w0])), (tk, .inr (3, [.ref kb, .int (nI n)])), (kb, .inl (aB g, 2000, .inl (bf t))), (ha, .inl (aQ g, 12, .inr (.inr (.inr (.inr (fun j => some (xa j)))))))]) (b := [(x0, .inr (5, [.ref tw, .ref r0, .ref tk, .ref m0, .ref ha, .int (nI cnt), .int (b2 blk), .int pl, .ref tn, .ref bn, .ref w0])), (tk, .inr (3, [.ref kb, .int (nI n)])), (kb, .inl (aB g, 2000, .inl (bf t))), (ha, .inl (aQ g, 12, .inr (.inr (.inr (.inr (fun j => some (xa j)))))))]) (j_sb [0, 1, 2, 3] rfl rfl) (txs g xa xb y f)) rfl d_Dsk_output_2 (fun r w1 hO => ?_)
          obtain ⟨rfl, rfl⟩ := hO
          show j_V g κ 0 0 5 [(0, .ref x0), (1, .int (nI u)), (2, .int (nI i)), (3, .int (nI 0))] [.int (if 0 ≤ nI u ∧ nI u < nI cnt then (1 : Int32) else 0)] ([(x0, .inr (5, [.ref tw, .ref r0, .ref tk, .ref m0, .ref ha, .int (nI cnt), .int (b2 blk), .int pl, .ref tn, .ref bn, .ref w0])), (tk, .inr (3, [.ref kb, .int (nI n)])), (kb, .inl (aB g, 2000, .inl (bf t))), (ha, .inl (aQ g, 12, .inr (.inr (.inr (.inr (fun j => some (xa j)))))))] ++ txs g xa xb y f)
          refine j_if_eqB (pc := 5) (tgt := 25) C d_Dsk_output_5 rfl (fun c5 => ?_) (fun c5 => ?_)
          · skip
            exact absurd ⟨nI_pos' (by omega), nI_lt hu (by omega)⟩ c5
          · skip
            refine j_iload_n (pc := 8) C d_Dsk_output_8 rfl 2 rfl ?_
            refine j_if_ltN (pc := 9) (tgt := 25) C (by omega) d_Dsk_output_9 rfl ?_
            refine j_iload_n (pc := 12) C d_Dsk_output_12 rfl 2 rfl ?_
            refine j_aload_n (pc := 13) C d_Dsk_output_13 rfl 0 rfl ?_
            refine j_get (pc := 14) C F_Dsk_38 0 rfl rfl d_Dsk_output_14 ?_
            refine j_iload_n (pc := 17) C d_Dsk_output_17 rfl 1 rfl ?_
            refine j_aaldN (pc := 18) (b := xa u) C 3 2 rfl rfl (by omega) (by omega) rfl d_Dsk_output_18 ?_
            refine j_getM (pc := 19) C F_Dsk_146 (List.mem_append_right _ (txs_mem (u := u) (by omega) txc_0)) rfl d_Dsk_output_19 ?_
            refine j_rwi (y := nI ((xY t n (itN (rTx t n) u s2)).1)) (h3) ?_
            refine j_icmp_ltN (pc := 22) (tgt := 29) C (by omega) (by omega) d_Dsk_output_22 rfl (fun c22 => ?_) (fun c22 => ?_)
            · skip
              refine j_aload_n (pc := 29) C d_Dsk_output_29 rfl 0 rfl ?_
              refine j_get (pc := 30) C F_Dsk_38 0 rfl rfl d_Dsk_output_30 ?_
              refine j_iload_n (pc := 33) C d_Dsk_output_33 rfl 1 rfl ?_
              refine j_aaldN (pc := 34) (b := xa u) C 3 2 rfl rfl (by omega) (by omega) rfl d_Dsk_output_34 ?_
              refine j_astore (pc := 35) (lv' := [(4, .ref (xa u)), (0, .ref x0), (1, .int (nI u)), (2, .int (nI i)), (3, .int (nI 0))]) C d_Dsk_output_35 (by decide) rfl ?_
              refine j_iload_n (pc := 37) C d_Dsk_output_37 rfl 4 rfl ?_
              refine j_tableIn (pc := 38) (tgt := 64) C d_Dsk_output_38 (by decide) (by decide) rfl (by decide) ?_
              refine j_aload_n (pc := 64) C d_Dsk_output_64 rfl 1 rfl ?_
              refine j_get (pc := 65) C F_Dsk_26 0 rfl rfl d_Dsk_output_65 ?_
              refine j_aload (pc := 68) C d_Dsk_output_68 0 rfl ?_
              refine j_getM (pc := 70) C F_Dsk_162 (List.mem_append_right _ (txs_mem (u := u) (by omega) txc_0)) rfl d_Dsk_output_70 ?_
              refine j_iload_n (pc := 73) C d_Dsk_output_73 rfl 3 rfl ?_
              refine j_ialdMN (pc := 74) C 1 (List.mem_append_right _ (txs_mem (u := u) (by omega) (txc_k 4 (by decide) (by decide)))) rfl (by omega) (by omega) d_Dsk_output_74 ?_
              refine j_rwi (y := nI a1) (by rw [k1]; exact congrArg (fun z => nI (pos z)) g1) ?_
              refine j_bipush (pc := 75) (v := nI 8) C d_Dsk_output_75 (by decide) ?_
              refine j_callV (pc := 77) (As := [.int (nI a1), .int (nI 8)]) (rest := []) (wc := [(tk, .inr (3, [.ref kb, .int (nI n)])), (kb, .inl (aB g, 2000, .inl (bf t)))]) (wr := [(x0, .inr (5, [.ref tw, .ref r0, .ref tk, .ref m0, .ref ha, .int (nI cnt), .int (b2 blk), .int pl, .ref tn, .ref bn, .ref w0])), (ha, .inl (aQ g, 12, .inr (.inr (.inr (.inr (fun j => some (xa j)))))))] ++ txs g xa xb y f) C (c_Txt_lowFirst (kl κ) g tk kb n a1 8 t (by omega) hT (by omega) (by omega)) Y_Txt_lowFirst ml_Dsk_134 im_Txt_lowFirst sl_Txt_lowFirst rfl ⟨by decide, by decide⟩ rfl (ci := 3) (q0 := 0) rfl rfl rfl (Nat.le_of_ble_eq_true rfl) (by exact j_Sb.app (a := [(x0, .inr (5, [.ref tw, .ref r0, .ref tk, .ref m0, .ref ha, .int (nI cnt), .int (b2 blk), .int pl, .ref tn, .ref bn, .ref w0])), (tk, .inr (3, [.ref kb, .int (nI n)])), (kb, .inl (aB g, 2000, .inl (bf t))), (ha, .inl (aQ g, 12, .inr (.inr (.inr (.inr (fun j => some (xa j)))))))]) (b := [(tk, .inr (3, [.ref kb, .int (nI n)])), (kb, .inl (aB g, 2000, .inl (bf t))), (x0, .inr (5, [.ref tw, .ref r0, .ref tk, .ref m0, .ref ha, .int (nI cnt), .int (b2 blk), .int pl, .ref tn, .ref bn, .ref w0])), (ha, .inl (aQ g, 12, .inr (.inr (.inr (.inr (fun j => some (xa j)))))))]) (j_sb [1, 2, 0, 3] rfl rfl) (txs g xa xb y f)) rfl d_Dsk_output_77 (fun r w1 hO => ?_)
              obtain ⟨rfl, rfl⟩ := hO
              show j_V g κ 0 0 80 [(4, .ref (xa u)), (0, .ref x0), (1, .int (nI u)), (2, .int (nI i)), (3, .int (nI 0))] [.long (lN (lf t a1 8))] ([(tk, .inr (3, [.ref kb, .int (nI n)])), (kb, .inl (aB g, 2000, .inl (bf t))), (x0, .inr (5, [.ref tw, .ref r0, .ref tk, .ref m0, .ref ha, .int (nI cnt), .int (b2 blk), .int pl, .ref tn, .ref bn, .ref w0])), (ha, .inl (aQ g, 12, .inr (.inr (.inr (.inr (fun j => some (xa j)))))))] ++ txs g xa xb y f)
              refine j_sub (ws' := [(x0, .inr (5, [.ref tw, .ref r0, .ref tk, .ref m0, .ref ha, .int (nI cnt), .int (b2 blk), .int pl, .ref tn, .ref bn, .ref w0])), (tk, .inr (3, [.ref kb, .int (nI n)])), (kb, .inl (aB g, 2000, .inl (bf t))), (ha, .inl (aQ g, 12, .inr (.inr (.inr (.inr (fun j => some (xa j)))))))] ++ txs g xa xb y f) (by exact j_Sb.app (a := [(tk, .inr (3, [.ref kb, .int (nI n)])), (kb, .inl (aB g, 2000, .inl (bf t))), (x0, .inr (5, [.ref tw, .ref r0, .ref tk, .ref m0, .ref ha, .int (nI cnt), .int (b2 blk), .int pl, .ref tn, .ref bn, .ref w0])), (ha, .inl (aQ g, 12, .inr (.inr (.inr (.inr (fun j => some (xa j)))))))]) (b := [(x0, .inr (5, [.ref tw, .ref r0, .ref tk, .ref m0, .ref ha, .int (nI cnt), .int (b2 blk), .int pl, .ref tn, .ref bn, .ref w0])), (tk, .inr (3, [.ref kb, .int (nI n)])), (kb, .inl (aB g, 2000, .inl (bf t))), (ha, .inl (aQ g, 12, .inr (.inr (.inr (.inr (fun j => some (xa j)))))))]) (j_sb [2, 0, 1, 3] rfl rfl) (txs g xa xb y f)) ?_
              exact hR.2.1 _ _ _ _ d_Dsk_output_80 rfl (⟨by first | (exfalso; omega) | rw [outR_neg hu] | rw [outR_big hu] | (rw [outR_1 hu (by omega), if_neg (fun z => nlt0 (by assumption) z.1)]) | (rw [outR_1 hu (by omega), if_neg (fun z => nle (by assumption) z.2)]) | (rw [outR_in hu (by omega) hi (by omega)]; unfold outV; first | rw [sel_neg hq] | rw [sel_big hq] | (rw [g2, g1]; rfl)), rfl⟩)
            · skip
              refine j_ldc2 (pc := 25) C k_Dsk_132 d_Dsk_output_25 ?_
              exact hR.2.1 _ _ _ _ d_Dsk_output_28 rfl (⟨by first | (exfalso; omega) | rw [outR_neg hu] | rw [outR_big hu] | (rw [outR_1 hu (by omega), if_neg (fun z => nlt0 (by assumption) z.1)]) | (rw [outR_1 hu (by omega), if_neg (fun z => nle (by assumption) z.2)]) | (rw [outR_in hu (by omega) hi (by omega)]; unfold outV; first | rw [sel_neg hq] | rw [sel_big hq] | (rw [g2, g1]; rfl)), rfl⟩)
        · skip
          show j_V g κ 0 0 0 [(0, .ref x0), (1, .int (nI u)), (2, .int (nI i)), (3, .int (nI 1))] [] ([(x0, .inr (5, [.ref tw, .ref r0, .ref tk, .ref m0, .ref ha, .int (nI cnt), .int (b2 blk), .int pl, .ref tn, .ref bn, .ref w0])), (tk, .inr (3, [.ref kb, .int (nI n)])), (kb, .inl (aB g, 2000, .inl (bf t))), (ha, .inl (aQ g, 12, .inr (.inr (.inr (.inr (fun j => some (xa j)))))))] ++ txs g xa xb y f)
          refine j_aload_n (pc := 0) C d_Dsk_output_0 rfl 0 rfl ?_
          refine j_iload_n (pc := 1) C d_Dsk_output_1 rfl 1 rfl ?_
          refine j_callV (pc := 2) (As := [.int (nI u)]) (rest := []) (wc := [(x0, .inr (5, [.ref tw, .ref r0, .ref tk, .ref m0, .ref ha, .int (nI cnt), .int (b2 blk), .int pl, .ref tn, .ref bn, .ref w0]))]) (wr := [(tk, .inr (3, [.ref kb, .int (nI n)])), (kb, .inl (aB g, 2000, .inl (bf t))), (ha, .inl (aQ g, 12, .inr (.inr (.inr (.inr (fun j => some (xa j)))))))] ++ txs g xa xb y f) C (c_Dsk_hasTransaction (kl κ) g x0 tw tk r0 m0 ha tn bn w0 cnt blk pl (nI u) (by omega)) Y_Dsk_hasTransaction ml_Dsk_138 im_Dsk_hasTransaction sl_Dsk_hasTransaction rfl ⟨by decide, by decide⟩ rfl (ci := 5) (q0 := 0) rfl rfl rfl (Nat.le_of_ble_eq_true rfl) (by exact j_Sb.app (a := [(x0, .inr (5, [.ref tw, .ref r0, .ref tk, .ref m0, .ref ha, .int (nI cnt), .int (b2 blk), .int pl, .ref tn, .ref bn, .ref w0])), (tk, .inr (3, [.ref kb, .int (nI n)])), (kb, .inl (aB g, 2000, .inl (bf t))), (ha, .inl (aQ g, 12, .inr (.inr (.inr (.inr (fun j => some (xa j)))))))]) (b := [(x0, .inr (5, [.ref tw, .ref r0, .ref tk, .ref m0, .ref ha, .int (nI cnt), .int (b2 blk), .int pl, .ref tn, .ref bn, .ref w0])), (tk, .inr (3, [.ref kb, .int (nI n)])), (kb, .inl (aB g, 2000, .inl (bf t))), (ha, .inl (aQ g, 12, .inr (.inr (.inr (.inr (fun j => some (xa j)))))))]) (j_sb [0, 1, 2, 3] rfl rfl) (txs g xa xb y f)) rfl d_Dsk_output_2 (fun r w1 hO => ?_)
          obtain ⟨rfl, rfl⟩ := hO
          show j_V g κ 0 0 5 [(0, .ref x0), (1, .int (nI u)), (2, .int (nI i)), (3, .int (nI 1))] [.int (if 0 ≤ nI u ∧ nI u < nI cnt then (1 : Int32) else 0)] ([(x0, .inr (5, [.ref tw, .ref r0, .ref tk, .ref m0, .ref ha, .int (nI cnt), .int (b2 blk), .int pl, .ref tn, .ref bn, .ref w0])), (tk, .inr (3, [.ref kb, .int (nI n)])), (kb, .inl (aB g, 2000, .inl (bf t))), (ha, .inl (aQ g, 12, .inr (.inr (.inr (.inr (fun j => some (xa j)))))))] ++ txs g xa xb y f)
          refine j_if_eqB (pc := 5) (tgt := 25) C d_Dsk_output_5 rfl (fun c5 => ?_) (fun c5 => ?_)
          · skip
            exact absurd ⟨nI_pos' (by omega), nI_lt hu (by omega)⟩ c5
          · skip
            refine j_iload_n (pc := 8) C d_Dsk_output_8 rfl 2 rfl ?_
            refine j_if_ltN (pc := 9) (tgt := 25) C (by omega) d_Dsk_output_9 rfl ?_
            refine j_iload_n (pc := 12) C d_Dsk_output_12 rfl 2 rfl ?_
            refine j_aload_n (pc := 13) C d_Dsk_output_13 rfl 0 rfl ?_
            refine j_get (pc := 14) C F_Dsk_38 0 rfl rfl d_Dsk_output_14 ?_
            refine j_iload_n (pc := 17) C d_Dsk_output_17 rfl 1 rfl ?_
            refine j_aaldN (pc := 18) (b := xa u) C 3 2 rfl rfl (by omega) (by omega) rfl d_Dsk_output_18 ?_
            refine j_getM (pc := 19) C F_Dsk_146 (List.mem_append_right _ (txs_mem (u := u) (by omega) txc_0)) rfl d_Dsk_output_19 ?_
            refine j_rwi (y := nI ((xY t n (itN (rTx t n) u s2)).1)) (h3) ?_
            refine j_icmp_ltN (pc := 22) (tgt := 29) C (by omega) (by omega) d_Dsk_output_22 rfl (fun c22 => ?_) (fun c22 => ?_)
            · skip
              refine j_aload_n (pc := 29) C d_Dsk_output_29 rfl 0 rfl ?_
              refine j_get (pc := 30) C F_Dsk_38 0 rfl rfl d_Dsk_output_30 ?_
              refine j_iload_n (pc := 33) C d_Dsk_output_33 rfl 1 rfl ?_
              refine j_aaldN (pc := 34) (b := xa u) C 3 2 rfl rfl (by omega) (by omega) rfl d_Dsk_output_34 ?_
              refine j_astore (pc := 35) (lv' := [(4, .ref (xa u)), (0, .ref x0), (1, .int (nI u)), (2, .int (nI i)), (3, .int (nI 1))]) C d_Dsk_output_35 (by decide) rfl ?_
              refine j_iload_n (pc := 37) C d_Dsk_output_37 rfl 4 rfl ?_
              refine j_tableIn (pc := 38) (tgt := 81) C d_Dsk_output_38 (by decide) (by decide) rfl (by decide) ?_
              refine j_aload (pc := 81) C d_Dsk_output_81 0 rfl ?_
              refine j_getM (pc := 83) C F_Dsk_165 (List.mem_append_right _ (txs_mem (u := u) (by omega) txc_0)) rfl d_Dsk_output_83 ?_
              refine j_iload_n (pc := 86) C d_Dsk_output_86 rfl 3 rfl ?_
              refine j_ialdMN (pc := 87) C 1 (List.mem_append_right _ (txs_mem (u := u) (by omega) (txc_k 5 (by decide) (by decide)))) rfl (by omega) (by omega) d_Dsk_output_87 ?_
              refine j_rwi (y := nI q1) (by rw [k2]; exact congrArg (fun z => nI (pos z)) g2) ?_
              refine j_i2l (pc := 88) (v := lN q1) C d_Dsk_output_88 (nI_l (by omega)) ?_
              exact hR.2.1 _ _ _ _ d_Dsk_output_89 rfl (⟨by first | (exfalso; omega) | rw [outR_neg hu] | rw [outR_big hu] | (rw [outR_1 hu (by omega), if_neg (fun z => nlt0 (by assumption) z.1)]) | (rw [outR_1 hu (by omega), if_neg (fun z => nle (by assumption) z.2)]) | (rw [outR_in hu (by omega) hi (by omega)]; unfold outV; first | rw [sel_neg hq] | rw [sel_big hq] | (rw [g2, g1]; rfl)), rfl⟩)
            · skip
              refine j_ldc2 (pc := 25) C k_Dsk_132 d_Dsk_output_25 ?_
              exact hR.2.1 _ _ _ _ d_Dsk_output_28 rfl (⟨by first | (exfalso; omega) | rw [outR_neg hu] | rw [outR_big hu] | (rw [outR_1 hu (by omega), if_neg (fun z => nlt0 (by assumption) z.1)]) | (rw [outR_1 hu (by omega), if_neg (fun z => nle (by assumption) z.2)]) | (rw [outR_in hu (by omega) hi (by omega)]; unfold outV; first | rw [sel_neg hq] | rw [sel_big hq] | (rw [g2, g1]; rfl)), rfl⟩)
        · skip
          show j_V g κ 0 0 0 [(0, .ref x0), (1, .int (nI u)), (2, .int (nI i)), (3, .int (nI 2))] [] ([(x0, .inr (5, [.ref tw, .ref r0, .ref tk, .ref m0, .ref ha, .int (nI cnt), .int (b2 blk), .int pl, .ref tn, .ref bn, .ref w0])), (tk, .inr (3, [.ref kb, .int (nI n)])), (kb, .inl (aB g, 2000, .inl (bf t))), (ha, .inl (aQ g, 12, .inr (.inr (.inr (.inr (fun j => some (xa j)))))))] ++ txs g xa xb y f)
          refine j_aload_n (pc := 0) C d_Dsk_output_0 rfl 0 rfl ?_
          refine j_iload_n (pc := 1) C d_Dsk_output_1 rfl 1 rfl ?_
          refine j_callV (pc := 2) (As := [.int (nI u)]) (rest := []) (wc := [(x0, .inr (5, [.ref tw, .ref r0, .ref tk, .ref m0, .ref ha, .int (nI cnt), .int (b2 blk), .int pl, .ref tn, .ref bn, .ref w0]))]) (wr := [(tk, .inr (3, [.ref kb, .int (nI n)])), (kb, .inl (aB g, 2000, .inl (bf t))), (ha, .inl (aQ g, 12, .inr (.inr (.inr (.inr (fun j => some (xa j)))))))] ++ txs g xa xb y f) C (c_Dsk_hasTransaction (kl κ) g x0 tw tk r0 m0 ha tn bn w0 cnt blk pl (nI u) (by omega)) Y_Dsk_hasTransaction ml_Dsk_138 im_Dsk_hasTransaction sl_Dsk_hasTransaction rfl ⟨by decide, by decide⟩ rfl (ci := 5) (q0 := 0) rfl rfl rfl (Nat.le_of_ble_eq_true rfl) (by exact j_Sb.app (a := [(x0, .inr (5, [.ref tw, .ref r0, .ref tk, .ref m0, .ref ha, .int (nI cnt), .int (b2 blk), .int pl, .ref tn, .ref bn, .ref w0])), (tk, .inr (3, [.ref kb, .int (nI n)])), (kb, .inl (aB g, 2000, .inl (bf t))), (ha, .inl (aQ g, 12, .inr (.inr (.inr (.inr (fun j => some (xa j)))))))]) (b := [(x0, .inr (5, [.ref tw, .ref r0, .ref tk, .ref m0, .ref ha, .int (nI cnt), .int (b2 blk), .int pl, .ref tn, .ref bn, .ref w0])), (tk, .inr (3, [.ref kb, .int (nI n)])), (kb, .inl (aB g, 2000, .inl (bf t))), (ha, .inl (aQ g, 12, .inr (.inr (.inr (.inr (fun j => some (xa j)))))))]) (j_sb [0, 1, 2, 3] rfl rfl) (txs g xa xb y f)) rfl d_Dsk_output_2 (fun r w1 hO => ?_)
          obtain ⟨rfl, rfl⟩ := hO
          show j_V g κ 0 0 5 [(0, .ref x0), (1, .int (nI u)), (2, .int (nI i)), (3, .int (nI 2))] [.int (if 0 ≤ nI u ∧ nI u < nI cnt then (1 : Int32) else 0)] ([(x0, .inr (5, [.ref tw, .ref r0, .ref tk, .ref m0, .ref ha, .int (nI cnt), .int (b2 blk), .int pl, .ref tn, .ref bn, .ref w0])), (tk, .inr (3, [.ref kb, .int (nI n)])), (kb, .inl (aB g, 2000, .inl (bf t))), (ha, .inl (aQ g, 12, .inr (.inr (.inr (.inr (fun j => some (xa j)))))))] ++ txs g xa xb y f)
          refine j_if_eqB (pc := 5) (tgt := 25) C d_Dsk_output_5 rfl (fun c5 => ?_) (fun c5 => ?_)
          · skip
            exact absurd ⟨nI_pos' (by omega), nI_lt hu (by omega)⟩ c5
          · skip
            refine j_iload_n (pc := 8) C d_Dsk_output_8 rfl 2 rfl ?_
            refine j_if_ltN (pc := 9) (tgt := 25) C (by omega) d_Dsk_output_9 rfl ?_
            refine j_iload_n (pc := 12) C d_Dsk_output_12 rfl 2 rfl ?_
            refine j_aload_n (pc := 13) C d_Dsk_output_13 rfl 0 rfl ?_
            refine j_get (pc := 14) C F_Dsk_38 0 rfl rfl d_Dsk_output_14 ?_
            refine j_iload_n (pc := 17) C d_Dsk_output_17 rfl 1 rfl ?_
            refine j_aaldN (pc := 18) (b := xa u) C 3 2 rfl rfl (by omega) (by omega) rfl d_Dsk_output_18 ?_
            refine j_getM (pc := 19) C F_Dsk_146 (List.mem_append_right _ (txs_mem (u := u) (by omega) txc_0)) rfl d_Dsk_output_19 ?_
            refine j_rwi (y := nI ((xY t n (itN (rTx t n) u s2)).1)) (h3) ?_
            refine j_icmp_ltN (pc := 22) (tgt := 29) C (by omega) (by omega) d_Dsk_output_22 rfl (fun c22 => ?_) (fun c22 => ?_)
            · skip
              refine j_aload_n (pc := 29) C d_Dsk_output_29 rfl 0 rfl ?_
              refine j_get (pc := 30) C F_Dsk_38 0 rfl rfl d_Dsk_output_30 ?_
              refine j_iload_n (pc := 33) C d_Dsk_output_33 rfl 1 rfl ?_
              refine j_aaldN (pc := 34) (b := xa u) C 3 2 rfl rfl (by omega) (by omega) rfl d_Dsk_output_34 ?_
              refine j_astore (pc := 35) (lv' := [(4, .ref (xa u)), (0, .ref x0), (1, .int (nI u)), (2, .int (nI i)), (3, .int (nI 2))]) C d_Dsk_output_35 (by decide) rfl ?_
              refine j_iload_n (pc := 37) C d_Dsk_output_37 rfl 4 rfl ?_
              refine j_tableIn (pc := 38) (tgt := 90) C d_Dsk_output_38 (by decide) (by decide) rfl (by decide) ?_
              refine j_aload (pc := 90) C d_Dsk_output_90 0 rfl ?_
              refine j_getM (pc := 92) C F_Dsk_168 (List.mem_append_right _ (txs_mem (u := u) (by omega) txc_0)) rfl d_Dsk_output_92 ?_
              refine j_iload_n (pc := 95) C d_Dsk_output_95 rfl 3 rfl ?_
              refine j_ialdMN (pc := 96) C 1 (List.mem_append_right _ (txs_mem (u := u) (by omega) (txc_k 6 (by decide) (by decide)))) rfl (by omega) (by omega) d_Dsk_output_96 ?_
              refine j_rwi (y := nI ((outZ t n (xO t n (itN (rTx t n) u s2) i)).1)) (k3) ?_
              refine j_i2l (pc := 97) (v := lN ((outZ t n (xO t n (itN (rTx t n) u s2) i)).1)) C d_Dsk_output_97 (nI_l (by omega)) ?_
              exact hR.2.1 _ _ _ _ d_Dsk_output_98 rfl (⟨by first | (exfalso; omega) | rw [outR_neg hu] | rw [outR_big hu] | (rw [outR_1 hu (by omega), if_neg (fun z => nlt0 (by assumption) z.1)]) | (rw [outR_1 hu (by omega), if_neg (fun z => nle (by assumption) z.2)]) | (rw [outR_in hu (by omega) hi (by omega)]; unfold outV; first | rw [sel_neg hq] | rw [sel_big hq] | (rw [g2, g1]; rfl)), rfl⟩)
            · skip
              refine j_ldc2 (pc := 25) C k_Dsk_132 d_Dsk_output_25 ?_
              exact hR.2.1 _ _ _ _ d_Dsk_output_28 rfl (⟨by first | (exfalso; omega) | rw [outR_neg hu] | rw [outR_big hu] | (rw [outR_1 hu (by omega), if_neg (fun z => nlt0 (by assumption) z.1)]) | (rw [outR_1 hu (by omega), if_neg (fun z => nle (by assumption) z.2)]) | (rw [outR_in hu (by omega) hi (by omega)]; unfold outV; first | rw [sel_neg hq] | rw [sel_big hq] | (rw [g2, g1]; rfl)), rfl⟩)
