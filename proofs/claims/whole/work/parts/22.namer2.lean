abbrev rm_Nam_digest : Room := { frames := 2, cells := 0, slots := 0, locals := 55 }
set_option maxHeartbeats 4000000 in
set_option maxRecDepth 100000 in
theorem lp_dig3 {g : JX} {κ : JK} {m0 ms mw mf sa N0 p n : Nat} {t : Nat → Nat} {c : Nat} {d w : Nat → BW} (hN : N0 ≤ 2000) (hT : ∀ j, t j < 256) (hp : p + n ≤ N0) (hc : c < (n + 8) / 64 + 1) (K : j_V g κ 0 0 106 [(0, .ref m0), (1, .ref sa), (2, .int (nI p)), (3, .int (nI n)), (4, .int (nI ((n + 8) / 64 + 1))), (5, .int (nI c))] [] [(m0, .inr (1, [.ref ms, .ref mw, .ref mf])), (ms, .inl (aI g, 8, .inl (wf d))), (mw, .inl (aI g, 64, .inl (wf (pW w (fun q => pb (fun j => t (p + j)) n (c * 64 + q)) 64)))), (sa, .inl (aB g, N0, .inl (bf t)))]) (C : j_C g κ b_Nam_digest R_Nam rm_Nam_digest 8) : ∀ (k : Nat) (i : Nat), i ≤ 64 → 65 ≤ i + k → j_V g κ (0) (0) 53 [(0, .ref m0), (1, .ref sa), (2, .int (nI p)), (3, .int (nI n)), (4, .int (nI ((n + 8) / 64 + 1))), (5, .int (nI c)), (6, .int (nI i))] [] ([(m0, .inr (1, [.ref ms, .ref mw, .ref mf])), (ms, .inl (aI g, 8, .inl (wf d))), (mw, .inl (aI g, 64, .inl (wf (pW w (fun q => pb (fun j => t (p + j)) n (c * 64 + q)) i)))), (sa, .inl (aB g, N0, .inl (bf t)))]) := by
  intro k
  induction k with
  | zero =>
    intro i hi hk
    exfalso; omega
  | succ k ih =>
    intro i hi hk
    refine j_iload (pc := 53) C d_Nam_digest_53 6 rfl ?_
    refine j_bipush (pc := 55) (v := nI 64) C d_Nam_digest_55 (by decide) ?_
    refine j_icmp_geN (pc := 57) (tgt := 106) C (by omega) (by omega) d_Nam_digest_57 rfl (fun c57 => ?_) (fun c57 => ?_)
    · skip
      refine j_lv (lv' := [(0, .ref m0), (1, .ref sa), (2, .int (nI p)), (3, .int (nI n)), (4, .int (nI ((n + 8) / 64 + 1))), (5, .int (nI c))]) [0, 1, 2, 3, 4, 5] rfl ?_
      obtain rfl : i = 64 := by omega
      exact K
    · skip
      refine j_aload_n (pc := 60) C d_Nam_digest_60 rfl 1 rfl ?_
      refine j_iload_n (pc := 61) C d_Nam_digest_61 rfl 2 rfl ?_
      refine j_iload_n (pc := 62) C d_Nam_digest_62 rfl 3 rfl ?_
      refine j_iload (pc := 63) C d_Nam_digest_63 5 rfl ?_
      refine j_bipush (pc := 65) (v := nI 64) C d_Nam_digest_65 (by decide) ?_
      refine j_imulN (pc := 67) C d_Nam_digest_67 ?_
      refine j_iload (pc := 68) C d_Nam_digest_68 6 rfl ?_
      refine j_iaddN (pc := 70) C d_Nam_digest_70 ?_
      refine j_callS (pc := 71) (As := [.ref sa, .int (nI p), .int (nI n), .int (nI ((c * 64) + i))]) (rest := []) (wc := [(sa, .inl (aB g, N0, .inl (bf t)))]) (wr := [(m0, .inr (1, [.ref ms, .ref mw, .ref mf])), (ms, .inl (aI g, 8, .inl (wf d))), (mw, .inl (aI g, 64, .inl (wf (pW w (fun q => pb (fun j => t (p + j)) n (c * 64 + q)) i))))]) C (c_Nam_paddedByte (kl κ) g sa N0 p n ((c * 64) + i) t (by omega) hT (by omega) (by omega)) Y_Nam_paddedByte ml_Nam_33 sta_Nam_paddedByte rfl ⟨by decide, by decide⟩ rfl (Nat.le_of_ble_eq_true rfl) (j_sb [3, 0, 1, 2] rfl rfl) rfl d_Nam_digest_71 (fun r w1 hO => ?_)
      obtain ⟨rfl, rfl⟩ := hO
      show j_V g κ 0 0 74 [(0, .ref m0), (1, .ref sa), (2, .int (nI p)), (3, .int (nI n)), (4, .int (nI ((n + 8) / 64 + 1))), (5, .int (nI c)), (6, .int (nI i))] [.int (nI (pb (fun j => t (p + j)) n ((c * 64) + i)))] ([(sa, .inl (aB g, N0, .inl (bf t))), (m0, .inr (1, [.ref ms, .ref mw, .ref mf])), (ms, .inl (aI g, 8, .inl (wf d))), (mw, .inl (aI g, 64, .inl (wf (pW w (fun q => pb (fun j => t (p + j)) n (c * 64 + q)) i))))])
      refine j_istore (pc := 74) (lv' := [(7, .int (nI (pb (fun j => t (p + j)) n ((c * 64) + i)))), (0, .ref m0), (1, .ref sa), (2, .int (nI p)), (3, .int (nI n)), (4, .int (nI ((n + 8) / 64 + 1))), (5, .int (nI c)), (6, .int (nI i))]) C d_Nam_digest_74 (by decide) rfl ?_
      refine j_aload_n (pc := 76) C d_Nam_digest_76 rfl 1 rfl ?_
      refine j_get (pc := 77) C F_Nam_15 1 rfl rfl d_Nam_digest_77 ?_
      refine j_iload (pc := 80) C d_Nam_digest_80 7 rfl ?_
      refine j_iconst (pc := 82) (v := nI 4) C d_Nam_digest_82 (by decide) ?_
      refine j_idivN (pc := 83) C (by omega) (by omega) (by omega) d_Nam_digest_83 ?_
      refine j_aload_n (pc := 84) C d_Nam_digest_84 rfl 1 rfl ?_
      refine j_get (pc := 85) C F_Nam_15 1 rfl rfl d_Nam_digest_85 ?_
      refine j_iload (pc := 88) C d_Nam_digest_88 7 rfl ?_
      refine j_iconst (pc := 90) (v := nI 4) C d_Nam_digest_90 (by decide) ?_
      refine j_idivN (pc := 91) C (by omega) (by omega) (by omega) d_Nam_digest_91 ?_
      refine j_ialdN (pc := 92) C 3 1 rfl rfl (by omega) (by omega) d_Nam_digest_92 ?_
      refine j_bipush (pc := 93) (v := nI 8) C d_Nam_digest_93 (by decide) ?_
      refine j_ishlW (pc := 95) C (by omega) d_Nam_digest_95 ?_
      refine j_iload (pc := 96) C d_Nam_digest_96 0 rfl ?_
      refine j_iorWN (pc := 98) C d_Nam_digest_98 ?_
      refine j_iastW (pc := 99) (ws' := [(sa, .inl (aB g, N0, .inl (bf t))), (m0, .inr (1, [.ref ms, .ref mw, .ref mf])), (ms, .inl (aI g, 8, .inl (wf d))), (mw, .inl (aI g, 64, .inl (wf (va_up (pW w (fun q => pb (fun j => t (p + j)) n (c * 64 + q)) i) (i / 4) ((((pW w (fun q => pb (fun j => t (p + j)) n (c * 64 + q)) i) (i / 4)) <<< 8) ||| BitVec.ofNat 32 (pb (fun j => t (p + j)) n ((c * 64) + i)))))))]) C 3 1 rfl rfl (by omega) (by omega) rfl d_Nam_digest_99 ?_
      refine j_iinc (pc := 100) (k := 7) (v := nI (i + 1)) (lv' := [(6, .int (nI (i + 1))), (7, .int (nI (pb (fun j => t (p + j)) n ((c * 64) + i)))), (0, .ref m0), (1, .ref sa), (2, .int (nI p)), (3, .int (nI n)), (4, .int (nI ((n + 8) / 64 + 1))), (5, .int (nI c))]) C d_Nam_digest_100 rfl (j_inc _ _) (by decide) rfl ?_
      refine j_goto (pc := 103) (tgt := 53) C d_Nam_digest_103 rfl ?_
      refine j_lv (lv' := [(0, .ref m0), (1, .ref sa), (2, .int (nI p)), (3, .int (nI n)), (4, .int (nI ((n + 8) / 64 + 1))), (5, .int (nI c)), (6, .int (nI (i + 1)))]) [2, 3, 4, 5, 6, 7, 0] rfl ?_
      refine j_sub (ws' := [(m0, .inr (1, [.ref ms, .ref mw, .ref mf])), (ms, .inl (aI g, 8, .inl (wf d))), (mw, .inl (aI g, 64, .inl (wf (va_up (pW w (fun q => pb (fun j => t (p + j)) n (c * 64 + q)) i) (i / 4) ((((pW w (fun q => pb (fun j => t (p + j)) n (c * 64 + q)) i) (i / 4)) <<< 8) ||| BitVec.ofNat 32 (pb (fun j => t (p + j)) n ((c * 64) + i))))))), (sa, .inl (aB g, N0, .inl (bf t)))]) (j_sb [1, 2, 3, 0] rfl rfl) ?_
      have e := ih (i + 1) (by omega) (by omega)
      rw [← pW_s] at e
      exact e
set_option maxHeartbeats 4000000 in
set_option maxRecDepth 100000 in
theorem lp_dig2 {g : JX} {κ : JK} {m0 ms mw mf sa N0 p n : Nat} {t : Nat → Nat} (hN : N0 ≤ 2000) (hT : ∀ j, t j < 256) (hp : p + n ≤ N0) (C : j_C g κ b_Nam_digest R_Nam rm_Nam_digest 8) (hR : j_R g κ b_Nam_digest none (fun r w1 => ∃ (d1 w2 : Nat → BW), r = none ∧ w1 = [(m0, .inr (1, [.ref ms, .ref mw, .ref mf])), (ms, .inl (aI g, 8, .inl (wf d1))), (mw, .inl (aI g, 64, .inl (wf w2))), (sa, .inl (aB g, N0, .inl (bf t)))] ∧ ∀ j, j < 8 → d1 j = dW (fun j => t (p + j)) n j) 0 0) : ∀ (k : Nat) (c : Nat) (d w : Nat → BW), c ≤ (n + 8) / 64 + 1 → (n + 8) / 64 + 1 + 1 ≤ c + k → (∀ j, j < 8 → d j = dgN (pb (fun j => t (p + j)) n) c j) → j_V g κ (0) (0) 43 [(0, .ref m0), (1, .ref sa), (2, .int (nI p)), (3, .int (nI n)), (4, .int (nI ((n + 8) / 64 + 1))), (5, .int (nI c))] [] ([(m0, .inr (1, [.ref ms, .ref mw, .ref mf])), (ms, .inl (aI g, 8, .inl (wf d))), (mw, .inl (aI g, 64, .inl (wf w))), (sa, .inl (aB g, N0, .inl (bf t)))]) := by
  intro k
  induction k with
  | zero =>
    intro c d w hc hk hd
    exfalso; omega
  | succ k ih =>
    intro c d w hc hk hd
    refine j_iload (pc := 43) C d_Nam_digest_43 5 rfl ?_
    refine j_iload (pc := 45) C d_Nam_digest_45 4 rfl ?_
    refine j_icmp_geN (pc := 47) (tgt := 120) C (by omega) (by omega) d_Nam_digest_47 rfl (fun c47 => ?_) (fun c47 => ?_)
    · skip
      exact hR.2.2 _ _ _ d_Nam_digest_120 rfl (⟨d, w, rfl, rfl, fun j hj => by rw [hd j hj, show c = (n + 8) / 64 + 1 by omega]; rfl⟩)
    · skip
      refine j_iconst (pc := 50) (v := nI 0) C d_Nam_digest_50 (by decide) ?_
      refine j_istore (pc := 51) (lv' := [(6, .int (nI 0)), (0, .ref m0), (1, .ref sa), (2, .int (nI p)), (3, .int (nI n)), (4, .int (nI ((n + 8) / 64 + 1))), (5, .int (nI c))]) C d_Nam_digest_51 (by decide) rfl ?_
      refine j_lv (lv' := [(0, .ref m0), (1, .ref sa), (2, .int (nI p)), (3, .int (nI n)), (4, .int (nI ((n + 8) / 64 + 1))), (5, .int (nI c)), (6, .int (nI 0))]) [1, 2, 3, 4, 5, 6, 0] rfl ?_
      refine Eq.mp (congrArg (fun z => j_V g κ 0 0 53 [(0, .ref m0), (1, .ref sa), (2, .int (nI p)), (3, .int (nI n)), (4, .int (nI ((n + 8) / 64 + 1))), (5, .int (nI c)), (6, .int (nI 0))] [] [(m0, .inr (1, [.ref ms, .ref mw, .ref mf])), (ms, .inl (aI g, 8, .inl (wf d))), (mw, .inl (aI g, 64, .inl (wf z))), (sa, .inl (aB g, N0, .inl (bf t)))]) (pW_0 w (fun q => pb (fun j => t (p + j)) n (c * 64 + q)))) (lp_dig3 (m0 := m0) (ms := ms) (mw := mw) (mf := mf) (sa := sa) (N0 := N0) (p := p) (n := n) (t := t) (c := c) (d := d) (w := w) hN hT hp (by omega) ?_ C 65 0 (by omega) (by omega))
      refine j_aload_n (pc := 106) C d_Nam_digest_106 rfl 0 rfl ?_
      refine j_callV (pc := 107) (As := []) (rest := []) (wc := [(m0, .inr (1, [.ref ms, .ref mw, .ref mf])), (mw, .inl (aI g, 64, .inl (wf (pW w (fun q => pb (fun j => t (p + j)) n (c * 64 + q)) 64))))]) (wr := [(ms, .inl (aI g, 8, .inl (wf d))), (sa, .inl (aB g, N0, .inl (bf t)))]) C (c_Nam_stretchSchedule (kl κ) g m0 ms mw mf (pW w (fun q => pb (fun j => t (p + j)) n (c * 64 + q)) 64)) Y_Nam_stretchSchedule ml_Nam_37 im_Nam_stretchSchedule sl_Nam_stretchSchedule rfl ⟨by decide, by decide⟩ rfl (ci := 1) (q0 := 0) rfl rfl rfl (Nat.le_of_ble_eq_true rfl) (j_sb [0, 2, 1, 3] rfl rfl) rfl d_Nam_digest_107 (fun r w1 hO => ?_)
      obtain ⟨w2, rfl, rfl, hw2⟩ := hO
      show j_V g κ 0 0 110 [(0, .ref m0), (1, .ref sa), (2, .int (nI p)), (3, .int (nI n)), (4, .int (nI ((n + 8) / 64 + 1))), (5, .int (nI c))] [] ([(m0, .inr (1, [.ref ms, .ref mw, .ref mf])), (mw, .inl (aI g, 64, .inl (wf w2))), (ms, .inl (aI g, 8, .inl (wf d))), (sa, .inl (aB g, N0, .inl (bf t)))])
      refine j_aload_n (pc := 110) C d_Nam_digest_110 rfl 0 rfl ?_
      refine j_callV (pc := 111) (As := []) (rest := []) (wc := [(m0, .inr (1, [.ref ms, .ref mw, .ref mf])), (ms, .inl (aI g, 8, .inl (wf d))), (mw, .inl (aI g, 64, .inl (wf w2)))]) (wr := [(sa, .inl (aB g, N0, .inl (bf t)))]) C (c_Nam_mixChunk (kl κ) g m0 ms mw mf d w2) Y_Nam_mixChunk ml_Nam_40 im_Nam_mixChunk sl_Nam_mixChunk rfl ⟨by decide, by decide⟩ rfl (ci := 1) (q0 := 0) rfl rfl rfl (Nat.le_of_ble_eq_true rfl) (j_sb [0, 2, 1, 3] rfl rfl) rfl d_Nam_digest_111 (fun r w1 hO => ?_)
      obtain ⟨d2, rfl, rfl, hd2⟩ := hO
      show j_V g κ 0 0 114 [(0, .ref m0), (1, .ref sa), (2, .int (nI p)), (3, .int (nI n)), (4, .int (nI ((n + 8) / 64 + 1))), (5, .int (nI c))] [] ([(m0, .inr (1, [.ref ms, .ref mw, .ref mf])), (ms, .inl (aI g, 8, .inl (wf d2))), (mw, .inl (aI g, 64, .inl (wf w2))), (sa, .inl (aB g, N0, .inl (bf t)))])
      refine j_iinc (pc := 114) (k := 5) (v := nI (c + 1)) (lv' := [(5, .int (nI (c + 1))), (0, .ref m0), (1, .ref sa), (2, .int (nI p)), (3, .int (nI n)), (4, .int (nI ((n + 8) / 64 + 1)))]) C d_Nam_digest_114 rfl (j_inc _ _) (by decide) rfl ?_
      refine j_goto (pc := 117) (tgt := 43) C d_Nam_digest_117 rfl ?_
      refine j_lv (lv' := [(0, .ref m0), (1, .ref sa), (2, .int (nI p)), (3, .int (nI n)), (4, .int (nI ((n + 8) / 64 + 1))), (5, .int (nI (c + 1)))]) [1, 2, 3, 4, 5, 0] rfl ?_
      exact ih (c + 1) d2 w2 (by omega) (by omega) (dg_step (pb_lt (fun j => hT (p + j)) n) hd hw2 hd2)
set_option maxHeartbeats 4000000 in
set_option maxRecDepth 100000 in
theorem lp_dig1 {g : JX} {κ : JK} {m0 ms mw mf sa N0 p n : Nat} {t : Nat → Nat} {d w : Nat → BW} (hN : N0 ≤ 2000) (hT : ∀ j, t j < 256) (hp : p + n ≤ N0) (C : j_C g κ b_Nam_digest R_Nam rm_Nam_digest 8) (hR : j_R g κ b_Nam_digest none (fun r w1 => ∃ (d1 w2 : Nat → BW), r = none ∧ w1 = [(m0, .inr (1, [.ref ms, .ref mw, .ref mf])), (ms, .inl (aI g, 8, .inl (wf d1))), (mw, .inl (aI g, 64, .inl (wf w2))), (sa, .inl (aB g, N0, .inl (bf t)))] ∧ ∀ j, j < 8 → d1 j = dW (fun j => t (p + j)) n j) 0 0) : ∀ (k : Nat) (i : Nat), i ≤ 8 → 9 ≤ i + k → j_V g κ (0) (0) 3 [(0, .ref m0), (1, .ref sa), (2, .int (nI p)), (3, .int (nI n)), (4, .int (nI i))] [] ([(m0, .inr (1, [.ref ms, .ref mw, .ref mf])), (ms, .inl (aI g, 8, .inl (wf (cpW cH d i)))), (mw, .inl (aI g, 64, .inl (wf w))), (sa, .inl (aB g, N0, .inl (bf t)))]) := by
  intro k
  induction k with
  | zero =>
    intro i hi hk
    exfalso; omega
  | succ k ih =>
    intro i hi hk
    refine j_iload (pc := 3) C d_Nam_digest_3 4 rfl ?_
    refine j_bipush (pc := 5) (v := nI 8) C d_Nam_digest_5 (by decide) ?_
    refine j_icmp_geN (pc := 7) (tgt := 29) C (by omega) (by omega) d_Nam_digest_7 rfl (fun c7 => ?_) (fun c7 => ?_)
    · skip
      refine j_iload_n (pc := 29) C d_Nam_digest_29 rfl 3 rfl ?_
      refine j_bipush (pc := 30) (v := nI 8) C d_Nam_digest_30 (by decide) ?_
      refine j_iaddN (pc := 32) C d_Nam_digest_32 ?_
      refine j_bipush (pc := 33) (v := nI 64) C d_Nam_digest_33 (by decide) ?_
      refine j_idivN (pc := 35) C (by omega) (by omega) (by omega) d_Nam_digest_35 ?_
      refine j_iconst (pc := 36) (v := nI 1) C d_Nam_digest_36 (by decide) ?_
      refine j_iaddN (pc := 37) C d_Nam_digest_37 ?_
      refine j_istore (pc := 38) (lv' := [(4, .int (nI (((n + 8) / 64) + 1))), (0, .ref m0), (1, .ref sa), (2, .int (nI p)), (3, .int (nI n))]) C d_Nam_digest_38 (by decide) rfl ?_
      refine j_iconst (pc := 40) (v := nI 0) C d_Nam_digest_40 (by decide) ?_
      refine j_istore (pc := 41) (lv' := [(5, .int (nI 0)), (4, .int (nI (((n + 8) / 64) + 1))), (0, .ref m0), (1, .ref sa), (2, .int (nI p)), (3, .int (nI n))]) C d_Nam_digest_41 (by decide) rfl ?_
      refine j_lv (lv' := [(0, .ref m0), (1, .ref sa), (2, .int (nI p)), (3, .int (nI n)), (4, .int (nI (((n + 8) / 64) + 1))), (5, .int (nI 0))]) [2, 3, 4, 5, 1, 0] rfl ?_
      exact lp_dig2 (m0 := m0) (ms := ms) (mw := mw) (mf := mf) (sa := sa) (N0 := N0) (p := p) (n := n) (t := t) hN hT hp C hR ((n + 8) / 64 + 1 + 1) 0 _ w (by omega) (by omega) (fun j hj => if_pos (by omega))
    · skip
      refine j_aload_n (pc := 10) C d_Nam_digest_10 rfl 0 rfl ?_
      refine j_get (pc := 11) C F_Nam_9 0 rfl rfl d_Nam_digest_11 ?_
      refine j_iload (pc := 14) C d_Nam_digest_14 4 rfl ?_
      refine j_gets (pc := 16) C C.2.2.2.2.2.2.2.2.2.2.1 fs_Nam_30 d_Nam_digest_16 ?_
      refine j_iload (pc := 19) C d_Nam_digest_19 4 rfl ?_
      refine j_taldS (pc := 21) C (by omega) d_Nam_digest_21 ?_
      refine j_iastW (pc := 22) (ws' := [(m0, .inr (1, [.ref ms, .ref mw, .ref mf])), (ms, .inl (aI g, 8, .inl (wf (va_up (cpW cH d i) i (cH i))))), (mw, .inl (aI g, 64, .inl (wf w))), (sa, .inl (aB g, N0, .inl (bf t)))]) C 1 1 rfl rfl (by omega) (by omega) rfl d_Nam_digest_22 ?_
      refine j_iinc (pc := 23) (k := 4) (v := nI (i + 1)) (lv' := [(4, .int (nI (i + 1))), (0, .ref m0), (1, .ref sa), (2, .int (nI p)), (3, .int (nI n))]) C d_Nam_digest_23 rfl (j_inc _ _) (by decide) rfl ?_
      refine j_goto (pc := 26) (tgt := 3) C d_Nam_digest_26 rfl ?_
      refine j_lv (lv' := [(0, .ref m0), (1, .ref sa), (2, .int (nI p)), (3, .int (nI n)), (4, .int (nI (i + 1)))]) [1, 2, 3, 4, 0] rfl ?_
      have e := ih (i + 1) (by omega) (by omega)
      rw [← cpW_s] at e
      exact e
set_option maxHeartbeats 4000000 in
set_option maxRecDepth 100000 in
theorem c_Nam_digest (l : Launch) (g : JX) (m0 ms mw mf sa N0 p n : Nat) (t : Nat → Nat) (d w : Nat → BW) (hN : N0 ≤ 2000) (hT : ∀ j, t j < 256) (hp : p + n ≤ N0) : j_Ct l y_Nam_digest b_Nam_digest 8 none rm_Nam_digest g ([(m0, .inr (1, [.ref ms, .ref mw, .ref mf])), (ms, .inl (aI g, 8, .inl (wf d))), (mw, .inl (aI g, 64, .inl (wf w))), (sa, .inl (aB g, N0, .inl (bf t)))]) [.ref m0, .ref sa, .int (nI p), .int (nI n)] (fun r w1 => ∃ (d1 w2 : Nat → BW), r = none ∧ w1 = [(m0, .inr (1, [.ref ms, .ref mw, .ref mf])), (ms, .inl (aI g, 8, .inl (wf d1))), (mw, .inl (aI g, 64, .inl (wf w2))), (sa, .inl (aB g, N0, .inl (bf t)))] ∧ ∀ j, j < 8 → d1 j = dW (fun j => t (p + j)) n j) 0 0 := by
  refine j_ct (by decide) (Nat.le_of_ble_eq_true rfl) (fun κ hkl C hR hI => ?_)
  show j_V g κ 0 0 0 [(0, .ref m0), (1, .ref sa), (2, .int (nI p)), (3, .int (nI n))] [] ([(m0, .inr (1, [.ref ms, .ref mw, .ref mf])), (ms, .inl (aI g, 8, .inl (wf d))), (mw, .inl (aI g, 64, .inl (wf w))), (sa, .inl (aB g, N0, .inl (bf t)))])
  refine j_iconst (pc := 0) (v := nI 0) C d_Nam_digest_0 (by decide) ?_
  refine j_istore (pc := 1) (lv' := [(4, .int (nI 0)), (0, .ref m0), (1, .ref sa), (2, .int (nI p)), (3, .int (nI n))]) C d_Nam_digest_1 (by decide) rfl ?_
  refine j_lv (lv' := [(0, .ref m0), (1, .ref sa), (2, .int (nI p)), (3, .int (nI n)), (4, .int (nI 0))]) [1, 2, 3, 4, 0] rfl ?_
  have e := lp_dig1 (m0 := m0) (ms := ms) (mw := mw) (mf := mf) (sa := sa) (N0 := N0) (p := p) (n := n) (t := t) (d := d) (w := w) hN hT hp C hR 9 0 (by omega) (by omega)
  rw [cpW_0] at e
  exact e
abbrev rm_Nam_writeState : Room := { frames := 0, cells := 0, slots := 0, locals := 0 }
set_option maxHeartbeats 4000000 in
set_option maxRecDepth 100000 in
theorem lp_ws {g : JX} {κ : JK} {m0 ms mw mf ta N1 to : Nat} {v : Nat → Nat} {d : Nat → BW} (hN : N1 ≤ 2000) (ht : to + 32 ≤ N1) (C : j_C g κ b_Nam_writeState R_Nam rm_Nam_writeState 4) (hR : j_R g κ b_Nam_writeState none (fun r w1 => r = none ∧ w1 = [(m0, .inr (1, [.ref ms, .ref mw, .ref mf])), (ms, .inl (aI g, 8, .inl (wf d))), (ta, .inl (aB g, N1, .inl (bf (putF v to 32 (wB d)))))]) 0 0) : ∀ (k : Nat) (i : Nat), i ≤ 32 → 33 ≤ i + k → j_V g κ (0) (0) 16 [(0, .ref m0), (1, .ref ta), (2, .int (nI to)), (3, .int (nI i))] [] ([(m0, .inr (1, [.ref ms, .ref mw, .ref mf])), (ms, .inl (aI g, 8, .inl (wf d))), (ta, .inl (aB g, N1, .inl (bf (putF v to i (wB d)))))]) := by
  intro k
  induction k with
  | zero =>
    intro i hi hk
    exfalso; omega
  | succ k ih =>
    intro i hi hk
    refine j_iload_n (pc := 16) C d_Nam_writeState_16 rfl 3 rfl ?_
    refine j_bipush (pc := 17) (v := nI 32) C d_Nam_writeState_17 (by decide) ?_
    refine j_icmp_geN (pc := 19) (tgt := 52) C (by omega) (by omega) d_Nam_writeState_19 rfl (fun c19 => ?_) (fun c19 => ?_)
    · skip
      exact hR.2.2 _ _ _ d_Nam_writeState_52 rfl (⟨rfl, by rw [show i = 32 by omega]⟩)
    · skip
      refine j_aload_n (pc := 22) C d_Nam_writeState_22 rfl 1 rfl ?_
      refine j_iload_n (pc := 23) C d_Nam_writeState_23 rfl 2 rfl ?_
      refine j_iload_n (pc := 24) C d_Nam_writeState_24 rfl 3 rfl ?_
      refine j_iaddN (pc := 25) C d_Nam_writeState_25 ?_
      refine j_aload_n (pc := 26) C d_Nam_writeState_26 rfl 0 rfl ?_
      refine j_get (pc := 27) C F_Nam_9 0 rfl rfl d_Nam_writeState_27 ?_
      refine j_iload_n (pc := 30) C d_Nam_writeState_30 rfl 3 rfl ?_
      refine j_iconst (pc := 31) (v := nI 4) C d_Nam_writeState_31 (by decide) ?_
      refine j_idivN (pc := 32) C (by omega) (by omega) (by omega) d_Nam_writeState_32 ?_
      refine j_ialdN (pc := 33) C 1 1 rfl rfl (by omega) (by omega) d_Nam_writeState_33 ?_
      refine j_bipush (pc := 34) (v := nI 24) C d_Nam_writeState_34 (by decide) ?_
      refine j_bipush (pc := 36) (v := nI 8) C d_Nam_writeState_36 (by decide) ?_
      refine j_iload_n (pc := 38) C d_Nam_writeState_38 rfl 3 rfl ?_
      refine j_iconst (pc := 39) (v := nI 4) C d_Nam_writeState_39 (by decide) ?_
      refine j_iremN (pc := 40) C (by omega) (by omega) (by omega) d_Nam_writeState_40 ?_
      refine j_imulN (pc := 41) C d_Nam_writeState_41 ?_
      refine j_isubN (pc := 42) C (by omega) d_Nam_writeState_42 ?_
      refine j_iushrW (pc := 43) C (by omega) d_Nam_writeState_43 ?_
      refine j_i2b (pc := 44) (v := (bI ((d (i / 4)) >>> (24 - (8 * (i % 4))))).toInt8.toInt32) C d_Nam_writeState_44 rfl ?_
      refine j_rwi (y := sb_b (wB d i)) (wB_sb d i) ?_
      refine j_bastB (pc := 45) (ws' := [(m0, .inr (1, [.ref ms, .ref mw, .ref mf])), (ms, .inl (aI g, 8, .inl (wf d))), (ta, .inl (aB g, N1, .inl (bf (va_up (putF v to i (wB d)) (to + i) (wB d i)))))]) C 2 0 rfl rfl (by omega) (by omega) (sb_nar _) rfl d_Nam_writeState_45 ?_
      refine j_iinc (pc := 46) (k := 3) (v := nI (i + 1)) (lv' := [(3, .int (nI (i + 1))), (0, .ref m0), (1, .ref ta), (2, .int (nI to))]) C d_Nam_writeState_46 rfl (j_inc _ _) (by decide) rfl ?_
      refine j_goto (pc := 49) (tgt := 16) C d_Nam_writeState_49 rfl ?_
      refine j_lv (lv' := [(0, .ref m0), (1, .ref ta), (2, .int (nI to)), (3, .int (nI (i + 1)))]) [1, 2, 3, 0] rfl ?_
      have e := ih (i + 1) (by omega) (by omega)
      rw [← putF_s] at e
      exact e
set_option maxHeartbeats 4000000 in
set_option maxRecDepth 100000 in
theorem c_Nam_writeState (l : Launch) (g : JX) (m0 ms mw mf ta N1 to : Nat) (v : Nat → Nat) (d : Nat → BW) (hN : N1 ≤ 2000) (ht : to + 32 ≤ N1) : j_Ct l y_Nam_writeState b_Nam_writeState 4 none rm_Nam_writeState g ([(m0, .inr (1, [.ref ms, .ref mw, .ref mf])), (ms, .inl (aI g, 8, .inl (wf d))), (ta, .inl (aB g, N1, .inl (bf v)))]) [.ref m0, .ref ta, .int (nI to)] (fun r w1 => r = none ∧ w1 = [(m0, .inr (1, [.ref ms, .ref mw, .ref mf])), (ms, .inl (aI g, 8, .inl (wf d))), (ta, .inl (aB g, N1, .inl (bf (putF v to 32 (wB d)))))]) 0 0 := by
  refine j_ct (by decide) (Nat.le_of_ble_eq_true rfl) (fun κ hkl C hR hI => ?_)
  show j_V g κ 0 0 0 [(0, .ref m0), (1, .ref ta), (2, .int (nI to))] [] ([(m0, .inr (1, [.ref ms, .ref mw, .ref mf])), (ms, .inl (aI g, 8, .inl (wf d))), (ta, .inl (aB g, N1, .inl (bf v)))])
  refine j_iload_n (pc := 0) C d_Nam_writeState_0 rfl 2 rfl ?_
  refine j_if_ltN (pc := 1) (tgt := 13) C (by omega) d_Nam_writeState_1 rfl ?_
  refine j_iload_n (pc := 4) C d_Nam_writeState_4 rfl 2 rfl ?_
  refine j_aload_n (pc := 5) C d_Nam_writeState_5 rfl 1 rfl ?_
  refine j_alen (pc := 6) (v := nI N1) C 2 0 rfl rfl rfl d_Nam_writeState_6 ?_
  refine j_bipush (pc := 7) (v := nI 32) C d_Nam_writeState_7 (by decide) ?_
  refine j_isubN (pc := 9) C (by omega) d_Nam_writeState_9 ?_
  refine j_icmp_leN (pc := 10) (tgt := 14) C (by omega) (by omega) d_Nam_writeState_10 rfl (fun c10 => ?_) (fun c10 => ?_)
  · skip
    refine j_iconst (pc := 14) (v := nI 0) C d_Nam_writeState_14 (by decide) ?_
    refine j_istore_n (pc := 15) (lv' := [(3, .int (nI 0)), (0, .ref m0), (1, .ref ta), (2, .int (nI to))]) C d_Nam_writeState_15 rfl (by decide) rfl ?_
    refine j_lv (lv' := [(0, .ref m0), (1, .ref ta), (2, .int (nI to)), (3, .int (nI 0))]) [1, 2, 3, 0] rfl ?_
    have e := lp_ws (m0 := m0) (ms := ms) (mw := mw) (mf := mf) (ta := ta) (N1 := N1) (to := to) (v := v) (d := d) hN ht C hR 33 0 (by omega) (by omega)
    rw [putF_0] at e
    exact e
  · skip
    exfalso; omega
abbrev rm_Nam_writeName : Room := { frames := 3, cells := 0, slots := 0, locals := 82 }
set_option maxHeartbeats 4000000 in
set_option maxRecDepth 100000 in
theorem c_Nam_writeName (l : Launch) (g : JX) (m0 ms mw mf sa ta N0 N1 p n to : Nat) (t u v : Nat → Nat) (d w : Nat → BW) (hN : N0 ≤ 2000) (hN1 : N1 ≤ 2000) (hT : ∀ j, t j < 256) (hu : ∀ j, u j < 256) (hp : p + n ≤ N0) (ht : to + 32 ≤ N1) : j_Ct l y_Nam_writeName b_Nam_writeName 6 none rm_Nam_writeName g ([(m0, .inr (1, [.ref ms, .ref mw, .ref mf])), (ms, .inl (aI g, 8, .inl (wf d))), (mw, .inl (aI g, 64, .inl (wf w))), (mf, .inl (aB g, 32, .inl (bf u))), (sa, .inl (aB g, N0, .inl (bf t))), (ta, .inl (aB g, N1, .inl (bf v)))]) [.ref m0, .ref sa, .int (nI p), .int (nI n), .ref ta, .int (nI to)] (fun r w1 => ∃ (d1 w2 : Nat → BW) (u1 : Nat → Nat), r = none ∧ w1 = [(m0, .inr (1, [.ref ms, .ref mw, .ref mf])), (ms, .inl (aI g, 8, .inl (wf d1))), (mw, .inl (aI g, 64, .inl (wf w2))), (mf, .inl (aB g, 32, .inl (bf u1))), (sa, .inl (aB g, N0, .inl (bf t))), (ta, .inl (aB g, N1, .inl (bf (putF v to 32 (nm (fun j => t (p + j)) n)))))] ∧ ∀ j, u1 j < 256) 0 0 := by
  refine j_ct (by decide) (Nat.le_of_ble_eq_true rfl) (fun κ hkl C hR hI => ?_)
  show j_V g κ 0 0 0 [(0, .ref m0), (1, .ref sa), (2, .int (nI p)), (3, .int (nI n)), (4, .ref ta), (5, .int (nI to))] [] ([(m0, .inr (1, [.ref ms, .ref mw, .ref mf])), (ms, .inl (aI g, 8, .inl (wf d))), (mw, .inl (aI g, 64, .inl (wf w))), (mf, .inl (aB g, 32, .inl (bf u))), (sa, .inl (aB g, N0, .inl (bf t))), (ta, .inl (aB g, N1, .inl (bf v)))])
  refine j_iload_n (pc := 0) C d_Nam_writeName_0 rfl 2 rfl ?_
  refine j_if_ltN (pc := 1) (tgt := 16) C (by omega) d_Nam_writeName_1 rfl ?_
  refine j_iload_n (pc := 4) C d_Nam_writeName_4 rfl 3 rfl ?_
  refine j_if_ltN (pc := 5) (tgt := 16) C (by omega) d_Nam_writeName_5 rfl ?_
  refine j_iload_n (pc := 8) C d_Nam_writeName_8 rfl 2 rfl ?_
  refine j_aload_n (pc := 9) C d_Nam_writeName_9 rfl 1 rfl ?_
  refine j_alen (pc := 10) (v := nI N0) C 4 0 rfl rfl rfl d_Nam_writeName_10 ?_
  refine j_iload_n (pc := 11) C d_Nam_writeName_11 rfl 3 rfl ?_
  refine j_isubN (pc := 12) C (by omega) d_Nam_writeName_12 ?_
  refine j_icmp_leN (pc := 13) (tgt := 17) C (by omega) (by omega) d_Nam_writeName_13 rfl (fun c13 => ?_) (fun c13 => ?_)
  · skip
    refine j_aload_n (pc := 17) C d_Nam_writeName_17 rfl 0 rfl ?_
    refine j_aload_n (pc := 18) C d_Nam_writeName_18 rfl 1 rfl ?_
    refine j_iload_n (pc := 19) C d_Nam_writeName_19 rfl 2 rfl ?_
    refine j_iload_n (pc := 20) C d_Nam_writeName_20 rfl 3 rfl ?_
    refine j_callV (pc := 21) (As := [.ref sa, .int (nI p), .int (nI n)]) (rest := []) (wc := [(m0, .inr (1, [.ref ms, .ref mw, .ref mf])), (ms, .inl (aI g, 8, .inl (wf d))), (mw, .inl (aI g, 64, .inl (wf w))), (sa, .inl (aB g, N0, .inl (bf t)))]) (wr := [(mf, .inl (aB g, 32, .inl (bf u))), (ta, .inl (aB g, N1, .inl (bf v)))]) C (c_Nam_digest (kl κ) g m0 ms mw mf sa N0 p n t d w (by omega) (hT) (by omega)) Y_Nam_digest ml_Nam_22 im_Nam_digest sl_Nam_digest rfl ⟨by decide, by decide⟩ rfl (ci := 1) (q0 := 0) rfl rfl rfl (Nat.le_of_ble_eq_true rfl) (j_sb [0, 1, 2, 4, 3, 5] rfl rfl) rfl d_Nam_writeName_21 (fun r w1 hO => ?_)
    obtain ⟨d1, w1, rfl, rfl, hd1⟩ := hO
    show j_V g κ 0 0 24 [(0, .ref m0), (1, .ref sa), (2, .int (nI p)), (3, .int (nI n)), (4, .ref ta), (5, .int (nI to))] [] ([(m0, .inr (1, [.ref ms, .ref mw, .ref mf])), (ms, .inl (aI g, 8, .inl (wf d1))), (mw, .inl (aI g, 64, .inl (wf w1))), (sa, .inl (aB g, N0, .inl (bf t))), (mf, .inl (aB g, 32, .inl (bf u))), (ta, .inl (aB g, N1, .inl (bf v)))])
    refine j_aload_n (pc := 24) C d_Nam_writeName_24 rfl 0 rfl ?_
    refine j_aload_n (pc := 25) C d_Nam_writeName_25 rfl 0 rfl ?_
    refine j_get (pc := 26) C F_Nam_18 0 rfl rfl d_Nam_writeName_26 ?_
    refine j_iconst (pc := 29) (v := nI 0) C d_Nam_writeName_29 (by decide) ?_
    refine j_callV (pc := 30) (As := [.ref mf, .int (nI 0)]) (rest := []) (wc := [(m0, .inr (1, [.ref ms, .ref mw, .ref mf])), (ms, .inl (aI g, 8, .inl (wf d1))), (mf, .inl (aB g, 32, .inl (bf u)))]) (wr := [(mw, .inl (aI g, 64, .inl (wf w1))), (sa, .inl (aB g, N0, .inl (bf t))), (ta, .inl (aB g, N1, .inl (bf v)))]) C (c_Nam_writeState (kl κ) g m0 ms mw mf mf 32 0 u d1 (by omega) (by omega)) Y_Nam_writeState ml_Nam_26 im_Nam_writeState sl_Nam_writeState rfl ⟨by decide, by decide⟩ rfl (ci := 1) (q0 := 0) rfl rfl rfl (Nat.le_of_ble_eq_true rfl) (j_sb [0, 1, 4, 2, 3, 5] rfl rfl) rfl d_Nam_writeName_30 (fun r w1 hO => ?_)
    obtain ⟨rfl, rfl⟩ := hO
    show j_V g κ 0 0 33 [(0, .ref m0), (1, .ref sa), (2, .int (nI p)), (3, .int (nI n)), (4, .ref ta), (5, .int (nI to))] [] ([(m0, .inr (1, [.ref ms, .ref mw, .ref mf])), (ms, .inl (aI g, 8, .inl (wf d1))), (mf, .inl (aB g, 32, .inl (bf (putF u 0 32 (wB d1))))), (mw, .inl (aI g, 64, .inl (wf w1))), (sa, .inl (aB g, N0, .inl (bf t))), (ta, .inl (aB g, N1, .inl (bf v)))])
    refine j_aload_n (pc := 33) C d_Nam_writeName_33 rfl 0 rfl ?_
    refine j_aload_n (pc := 34) C d_Nam_writeName_34 rfl 0 rfl ?_
    refine j_get (pc := 35) C F_Nam_18 0 rfl rfl d_Nam_writeName_35 ?_
    refine j_iconst (pc := 38) (v := nI 0) C d_Nam_writeName_38 (by decide) ?_
    refine j_bipush (pc := 39) (v := nI 32) C d_Nam_writeName_39 (by decide) ?_
    refine j_callV (pc := 41) (As := [.ref mf, .int (nI 0), .int (nI 32)]) (rest := []) (wc := [(m0, .inr (1, [.ref ms, .ref mw, .ref mf])), (ms, .inl (aI g, 8, .inl (wf d1))), (mw, .inl (aI g, 64, .inl (wf w1))), (mf, .inl (aB g, 32, .inl (bf (putF u 0 32 (wB d1)))))]) (wr := [(sa, .inl (aB g, N0, .inl (bf t))), (ta, .inl (aB g, N1, .inl (bf v)))]) C (c_Nam_digest (kl κ) g m0 ms mw mf mf 32 0 32 (putF u 0 32 (wB d1)) d1 w1 (by omega) (putF_lt hu (wB_lt d1)) (by omega)) Y_Nam_digest ml_Nam_22 im_Nam_digest sl_Nam_digest rfl ⟨by decide, by decide⟩ rfl (ci := 1) (q0 := 0) rfl rfl rfl (Nat.le_of_ble_eq_true rfl) (j_sb [0, 1, 3, 2, 4, 5] rfl rfl) rfl d_Nam_writeName_41 (fun r w1 hO => ?_)
    obtain ⟨d2, w2, rfl, rfl, hd2⟩ := hO
    show j_V g κ 0 0 44 [(0, .ref m0), (1, .ref sa), (2, .int (nI p)), (3, .int (nI n)), (4, .ref ta), (5, .int (nI to))] [] ([(m0, .inr (1, [.ref ms, .ref mw, .ref mf])), (ms, .inl (aI g, 8, .inl (wf d2))), (mw, .inl (aI g, 64, .inl (wf w2))), (mf, .inl (aB g, 32, .inl (bf (putF u 0 32 (wB d1))))), (sa, .inl (aB g, N0, .inl (bf t))), (ta, .inl (aB g, N1, .inl (bf v)))])
    refine j_aload_n (pc := 44) C d_Nam_writeName_44 rfl 0 rfl ?_
    refine j_aload (pc := 45) C d_Nam_writeName_45 4 rfl ?_
    refine j_iload (pc := 47) C d_Nam_writeName_47 5 rfl ?_
    refine j_callV (pc := 49) (As := [.ref ta, .int (nI to)]) (rest := []) (wc := [(m0, .inr (1, [.ref ms, .ref mw, .ref mf])), (ms, .inl (aI g, 8, .inl (wf d2))), (ta, .inl (aB g, N1, .inl (bf v)))]) (wr := [(mw, .inl (aI g, 64, .inl (wf w2))), (mf, .inl (aB g, 32, .inl (bf (putF u 0 32 (wB d1))))), (sa, .inl (aB g, N0, .inl (bf t)))]) C (c_Nam_writeState (kl κ) g m0 ms mw mf ta N1 to v d2 (by omega) (by omega)) Y_Nam_writeState ml_Nam_26 im_Nam_writeState sl_Nam_writeState rfl ⟨by decide, by decide⟩ rfl (ci := 1) (q0 := 0) rfl rfl rfl (Nat.le_of_ble_eq_true rfl) (j_sb [0, 1, 5, 2, 3, 4] rfl rfl) rfl d_Nam_writeName_49 (fun r w1 hO => ?_)
    obtain ⟨rfl, rfl⟩ := hO
    show j_V g κ 0 0 52 [(0, .ref m0), (1, .ref sa), (2, .int (nI p)), (3, .int (nI n)), (4, .ref ta), (5, .int (nI to))] [] ([(m0, .inr (1, [.ref ms, .ref mw, .ref mf])), (ms, .inl (aI g, 8, .inl (wf d2))), (ta, .inl (aB g, N1, .inl (bf (putF v to 32 (wB d2))))), (mw, .inl (aI g, 64, .inl (wf w2))), (mf, .inl (aB g, 32, .inl (bf (putF u 0 32 (wB d1))))), (sa, .inl (aB g, N0, .inl (bf t)))])
    refine j_sub (ws' := [(m0, .inr (1, [.ref ms, .ref mw, .ref mf])), (ms, .inl (aI g, 8, .inl (wf d2))), (mw, .inl (aI g, 64, .inl (wf w2))), (mf, .inl (aB g, 32, .inl (bf (putF u 0 32 (wB d1))))), (sa, .inl (aB g, N0, .inl (bf t))), (ta, .inl (aB g, N1, .inl (bf (putF v to 32 (wB d2)))))]) (j_sb [0, 1, 3, 4, 5, 2] rfl rfl) ?_
    exact hR.2.2 _ _ _ d_Nam_writeName_52 rfl (⟨d2, w2, putF u 0 32 (wB d1), rfl, by rw [putF_cg (nm_of hd1 hd2)], putF_lt hu (wB_lt d1)⟩)
  · skip
    exfalso; omega
set_option maxHeartbeats 4000000 in
set_option maxRecDepth 100000 in
theorem c_Nam_writeName_same (l : Launch) (g : JX) (m0 ms mw mf sa N0 p n to : Nat) (t u : Nat → Nat) (d w : Nat → BW) (hN : N0 ≤ 2000) (hT : ∀ j, t j < 256) (hu : ∀ j, u j < 256) (hp : p + n ≤ N0) (ht : to + 32 ≤ N0) : j_Ct l y_Nam_writeName b_Nam_writeName 6 none rm_Nam_writeName g ([(m0, .inr (1, [.ref ms, .ref mw, .ref mf])), (ms, .inl (aI g, 8, .inl (wf d))), (mw, .inl (aI g, 64, .inl (wf w))), (mf, .inl (aB g, 32, .inl (bf u))), (sa, .inl (aB g, N0, .inl (bf t)))]) [.ref m0, .ref sa, .int (nI p), .int (nI n), .ref sa, .int (nI to)] (fun r w1 => ∃ (d1 w2 : Nat → BW) (u1 : Nat → Nat), r = none ∧ w1 = [(m0, .inr (1, [.ref ms, .ref mw, .ref mf])), (ms, .inl (aI g, 8, .inl (wf d1))), (mw, .inl (aI g, 64, .inl (wf w2))), (mf, .inl (aB g, 32, .inl (bf u1))), (sa, .inl (aB g, N0, .inl (bf (putF t to 32 (nm (fun j => t (p + j)) n)))))] ∧ ∀ j, u1 j < 256) 0 0 := by
  refine j_ct (by decide) (Nat.le_of_ble_eq_true rfl) (fun κ hkl C hR hI => ?_)
  show j_V g κ 0 0 0 [(0, .ref m0), (1, .ref sa), (2, .int (nI p)), (3, .int (nI n)), (4, .ref sa), (5, .int (nI to))] [] ([(m0, .inr (1, [.ref ms, .ref mw, .ref mf])), (ms, .inl (aI g, 8, .inl (wf d))), (mw, .inl (aI g, 64, .inl (wf w))), (mf, .inl (aB g, 32, .inl (bf u))), (sa, .inl (aB g, N0, .inl (bf t)))])
  refine j_iload_n (pc := 0) C d_Nam_writeName_0 rfl 2 rfl ?_
  refine j_if_ltN (pc := 1) (tgt := 16) C (by omega) d_Nam_writeName_1 rfl ?_
  refine j_iload_n (pc := 4) C d_Nam_writeName_4 rfl 3 rfl ?_
  refine j_if_ltN (pc := 5) (tgt := 16) C (by omega) d_Nam_writeName_5 rfl ?_
  refine j_iload_n (pc := 8) C d_Nam_writeName_8 rfl 2 rfl ?_
  refine j_aload_n (pc := 9) C d_Nam_writeName_9 rfl 1 rfl ?_
  refine j_alen (pc := 10) (v := nI N0) C 4 0 rfl rfl rfl d_Nam_writeName_10 ?_
  refine j_iload_n (pc := 11) C d_Nam_writeName_11 rfl 3 rfl ?_
  refine j_isubN (pc := 12) C (by omega) d_Nam_writeName_12 ?_
  refine j_icmp_leN (pc := 13) (tgt := 17) C (by omega) (by omega) d_Nam_writeName_13 rfl (fun c13 => ?_) (fun c13 => ?_)
  · skip
    refine j_aload_n (pc := 17) C d_Nam_writeName_17 rfl 0 rfl ?_
    refine j_aload_n (pc := 18) C d_Nam_writeName_18 rfl 1 rfl ?_
    refine j_iload_n (pc := 19) C d_Nam_writeName_19 rfl 2 rfl ?_
    refine j_iload_n (pc := 20) C d_Nam_writeName_20 rfl 3 rfl ?_
    refine j_callV (pc := 21) (As := [.ref sa, .int (nI p), .int (nI n)]) (rest := []) (wc := [(m0, .inr (1, [.ref ms, .ref mw, .ref mf])), (ms, .inl (aI g, 8, .inl (wf d))), (mw, .inl (aI g, 64, .inl (wf w))), (sa, .inl (aB g, N0, .inl (bf t)))]) (wr := [(mf, .inl (aB g, 32, .inl (bf u)))]) C (c_Nam_digest (kl κ) g m0 ms mw mf sa N0 p n t d w (by omega) (hT) (by omega)) Y_Nam_digest ml_Nam_22 im_Nam_digest sl_Nam_digest rfl ⟨by decide, by decide⟩ rfl (ci := 1) (q0 := 0) rfl rfl rfl (Nat.le_of_ble_eq_true rfl) (j_sb [0, 1, 2, 4, 3] rfl rfl) rfl d_Nam_writeName_21 (fun r w1 hO => ?_)
    obtain ⟨d1, w1, rfl, rfl, hd1⟩ := hO
    show j_V g κ 0 0 24 [(0, .ref m0), (1, .ref sa), (2, .int (nI p)), (3, .int (nI n)), (4, .ref sa), (5, .int (nI to))] [] ([(m0, .inr (1, [.ref ms, .ref mw, .ref mf])), (ms, .inl (aI g, 8, .inl (wf d1))), (mw, .inl (aI g, 64, .inl (wf w1))), (sa, .inl (aB g, N0, .inl (bf t))), (mf, .inl (aB g, 32, .inl (bf u)))])
    refine j_aload_n (pc := 24) C d_Nam_writeName_24 rfl 0 rfl ?_
    refine j_aload_n (pc := 25) C d_Nam_writeName_25 rfl 0 rfl ?_
    refine j_get (pc := 26) C F_Nam_18 0 rfl rfl d_Nam_writeName_26 ?_
    refine j_iconst (pc := 29) (v := nI 0) C d_Nam_writeName_29 (by decide) ?_
    refine j_callV (pc := 30) (As := [.ref mf, .int (nI 0)]) (rest := []) (wc := [(m0, .inr (1, [.ref ms, .ref mw, .ref mf])), (ms, .inl (aI g, 8, .inl (wf d1))), (mf, .inl (aB g, 32, .inl (bf u)))]) (wr := [(mw, .inl (aI g, 64, .inl (wf w1))), (sa, .inl (aB g, N0, .inl (bf t)))]) C (c_Nam_writeState (kl κ) g m0 ms mw mf mf 32 0 u d1 (by omega) (by omega)) Y_Nam_writeState ml_Nam_26 im_Nam_writeState sl_Nam_writeState rfl ⟨by decide, by decide⟩ rfl (ci := 1) (q0 := 0) rfl rfl rfl (Nat.le_of_ble_eq_true rfl) (j_sb [0, 1, 4, 2, 3] rfl rfl) rfl d_Nam_writeName_30 (fun r w1 hO => ?_)
    obtain ⟨rfl, rfl⟩ := hO
    show j_V g κ 0 0 33 [(0, .ref m0), (1, .ref sa), (2, .int (nI p)), (3, .int (nI n)), (4, .ref sa), (5, .int (nI to))] [] ([(m0, .inr (1, [.ref ms, .ref mw, .ref mf])), (ms, .inl (aI g, 8, .inl (wf d1))), (mf, .inl (aB g, 32, .inl (bf (putF u 0 32 (wB d1))))), (mw, .inl (aI g, 64, .inl (wf w1))), (sa, .inl (aB g, N0, .inl (bf t)))])
    refine j_aload_n (pc := 33) C d_Nam_writeName_33 rfl 0 rfl ?_
    refine j_aload_n (pc := 34) C d_Nam_writeName_34 rfl 0 rfl ?_
    refine j_get (pc := 35) C F_Nam_18 0 rfl rfl d_Nam_writeName_35 ?_
    refine j_iconst (pc := 38) (v := nI 0) C d_Nam_writeName_38 (by decide) ?_
    refine j_bipush (pc := 39) (v := nI 32) C d_Nam_writeName_39 (by decide) ?_
    refine j_callV (pc := 41) (As := [.ref mf, .int (nI 0), .int (nI 32)]) (rest := []) (wc := [(m0, .inr (1, [.ref ms, .ref mw, .ref mf])), (ms, .inl (aI g, 8, .inl (wf d1))), (mw, .inl (aI g, 64, .inl (wf w1))), (mf, .inl (aB g, 32, .inl (bf (putF u 0 32 (wB d1)))))]) (wr := [(sa, .inl (aB g, N0, .inl (bf t)))]) C (c_Nam_digest (kl κ) g m0 ms mw mf mf 32 0 32 (putF u 0 32 (wB d1)) d1 w1 (by omega) (putF_lt hu (wB_lt d1)) (by omega)) Y_Nam_digest ml_Nam_22 im_Nam_digest sl_Nam_digest rfl ⟨by decide, by decide⟩ rfl (ci := 1) (q0 := 0) rfl rfl rfl (Nat.le_of_ble_eq_true rfl) (j_sb [0, 1, 3, 2, 4] rfl rfl) rfl d_Nam_writeName_41 (fun r w1 hO => ?_)
    obtain ⟨d2, w2, rfl, rfl, hd2⟩ := hO
    show j_V g κ 0 0 44 [(0, .ref m0), (1, .ref sa), (2, .int (nI p)), (3, .int (nI n)), (4, .ref sa), (5, .int (nI to))] [] ([(m0, .inr (1, [.ref ms, .ref mw, .ref mf])), (ms, .inl (aI g, 8, .inl (wf d2))), (mw, .inl (aI g, 64, .inl (wf w2))), (mf, .inl (aB g, 32, .inl (bf (putF u 0 32 (wB d1))))), (sa, .inl (aB g, N0, .inl (bf t)))])
    refine j_aload_n (pc := 44) C d_Nam_writeName_44 rfl 0 rfl ?_
    refine j_aload (pc := 45) C d_Nam_writeName_45 4 rfl ?_
    refine j_iload (pc := 47) C d_Nam_writeName_47 5 rfl ?_
    refine j_callV (pc := 49) (As := [.ref sa, .int (nI to)]) (rest := []) (wc := [(m0, .inr (1, [.ref ms, .ref mw, .ref mf])), (ms, .inl (aI g, 8, .inl (wf d2))), (sa, .inl (aB g, N0, .inl (bf t)))]) (wr := [(mw, .inl (aI g, 64, .inl (wf w2))), (mf, .inl (aB g, 32, .inl (bf (putF u 0 32 (wB d1)))))]) C (c_Nam_writeState (kl κ) g m0 ms mw mf sa N0 to t d2 (by omega) (by omega)) Y_Nam_writeState ml_Nam_26 im_Nam_writeState sl_Nam_writeState rfl ⟨by decide, by decide⟩ rfl (ci := 1) (q0 := 0) rfl rfl rfl (Nat.le_of_ble_eq_true rfl) (j_sb [0, 1, 4, 2, 3] rfl rfl) rfl d_Nam_writeName_49 (fun r w1 hO => ?_)
    obtain ⟨rfl, rfl⟩ := hO
    show j_V g κ 0 0 52 [(0, .ref m0), (1, .ref sa), (2, .int (nI p)), (3, .int (nI n)), (4, .ref sa), (5, .int (nI to))] [] ([(m0, .inr (1, [.ref ms, .ref mw, .ref mf])), (ms, .inl (aI g, 8, .inl (wf d2))), (sa, .inl (aB g, N0, .inl (bf (putF t to 32 (wB d2))))), (mw, .inl (aI g, 64, .inl (wf w2))), (mf, .inl (aB g, 32, .inl (bf (putF u 0 32 (wB d1)))))])
    refine j_sub (ws' := [(m0, .inr (1, [.ref ms, .ref mw, .ref mf])), (ms, .inl (aI g, 8, .inl (wf d2))), (mw, .inl (aI g, 64, .inl (wf w2))), (mf, .inl (aB g, 32, .inl (bf (putF u 0 32 (wB d1))))), (sa, .inl (aB g, N0, .inl (bf (putF t to 32 (wB d2)))))]) (j_sb [0, 1, 3, 4, 2] rfl rfl) ?_
    exact hR.2.2 _ _ _ d_Nam_writeName_52 rfl (⟨d2, w2, putF u 0 32 (wB d1), rfl, by rw [putF_cg (nm_of hd1 hd2)], putF_lt hu (wB_lt d1)⟩)
  · skip
    exfalso; omega
abbrev rm_Nam_init : Room := { frames := 1, cells := 3, slots := 104, locals := 20 }
set_option maxHeartbeats 4000000 in
set_option maxRecDepth 100000 in
theorem c_Nam_init (l : Launch) (g : JX) (m0 : Nat)  : j_Ct l y_Nam_init b_Nam_init 1 none rm_Nam_init g ([(m0, .inr (1, [.null, .null, .null]))]) [.ref m0] (fun r w1 => ∃ ms mw mf : Nat, r = none ∧ w1 = [(m0, .inr (1, [.ref ms, .ref mw, .ref mf])), (ms, .inl (aI g, 8, .inl (wf (fun _ => 0)))), (mw, .inl (aI g, 64, .inl (wf (fun _ => 0)))), (mf, .inl (aB g, 32, .inl (bf (fun _ => 0))))]) 3 104 := by
  refine j_ct (by decide) (Nat.le_of_ble_eq_true rfl) (fun κ hkl C hR hI => ?_)
  show j_V g κ 0 0 0 [(0, .ref m0)] [] ([(m0, .inr (1, [.null, .null, .null]))])
  refine j_aload_n (pc := 0) C d_Nam_init_0 rfl 0 rfl ?_
  refine j_objInit (pc := 1) C oi_Nam_3 oi_i oi_c (by decide) (Nat.le_of_ble_eq_true rfl) d_Nam_init_1 ?_
  refine j_aload_n (pc := 4) C d_Nam_init_4 rfl 0 rfl ?_
  refine j_bipush (pc := 5) (v := nI 8) C d_Nam_init_5 (by decide) ?_
  refine j_newa (pc := 7) (atype := .int) (a0 := (8, .inl (nf (fun _ => 0)))) C ac_int rfl (by intro c h; cases h) 1 rfl (fun _ => rfl) (by decide) (by decide) (by decide) (by decide) (by decide) d_Nam_init_7 (fun ms => ?_)
  show j_V g κ 1 8 9 [(0, .ref m0)] [.ref ms, .ref m0] ([(m0, .inr (1, [.null, .null, .null])), (ms, .inl (aI g, 8, .inl (nf (fun _ => 0))))])
  refine j_putF (pc := 9) (ws' := [(m0, .inr (1, [.ref ms, .null, .null])), (ms, .inl (aI g, 8, .inl (nf (fun _ => 0))))]) C hI Fp_Nam_9 0 rfl rfl (by first | rfl | decide) (Nat.le_of_ble_eq_true rfl) rfl d_Nam_init_9 ?_
  refine j_aload_n (pc := 12) C d_Nam_init_12 rfl 0 rfl ?_
  refine j_bipush (pc := 13) (v := nI 64) C d_Nam_init_13 (by decide) ?_
  refine j_newa (pc := 15) (atype := .int) (a0 := (64, .inl (nf (fun _ => 0)))) C ac_int rfl (by intro c h; cases h) 1 rfl (fun _ => rfl) (by decide) (by decide) (by decide) (by decide) (by decide) d_Nam_init_15 (fun mw => ?_)
  show j_V g κ 2 72 17 [(0, .ref m0)] [.ref mw, .ref m0] ([(m0, .inr (1, [.ref ms, .null, .null])), (ms, .inl (aI g, 8, .inl (nf (fun _ => 0)))), (mw, .inl (aI g, 64, .inl (nf (fun _ => 0))))])
  refine j_putF (pc := 17) (ws' := [(m0, .inr (1, [.ref ms, .ref mw, .null])), (ms, .inl (aI g, 8, .inl (nf (fun _ => 0)))), (mw, .inl (aI g, 64, .inl (nf (fun _ => 0))))]) C hI Fp_Nam_15 0 rfl rfl (by first | rfl | decide) (Nat.le_of_ble_eq_true rfl) rfl d_Nam_init_17 ?_
  refine j_aload_n (pc := 20) C d_Nam_init_20 rfl 0 rfl ?_
  refine j_bipush (pc := 21) (v := nI 32) C d_Nam_init_21 (by decide) ?_
  refine j_newa (pc := 23) (atype := .byte) (a0 := (32, .inl (bf (fun _ => 0)))) C ac_byte rfl (by intro c h; cases h) 0 rfl (fun _ => rfl) (by decide) (by decide) (by decide) (by decide) (by decide) d_Nam_init_23 (fun mf => ?_)
  show j_V g κ 3 104 25 [(0, .ref m0)] [.ref mf, .ref m0] ([(m0, .inr (1, [.ref ms, .ref mw, .null])), (ms, .inl (aI g, 8, .inl (nf (fun _ => 0)))), (mw, .inl (aI g, 64, .inl (nf (fun _ => 0)))), (mf, .inl (aB g, 32, .inl (bf (fun _ => 0))))])
  refine j_putF (pc := 25) (ws' := [(m0, .inr (1, [.ref ms, .ref mw, .ref mf])), (ms, .inl (aI g, 8, .inl (nf (fun _ => 0)))), (mw, .inl (aI g, 64, .inl (nf (fun _ => 0)))), (mf, .inl (aB g, 32, .inl (bf (fun _ => 0))))]) C hI Fp_Nam_18 0 rfl rfl (by first | rfl | decide) (Nat.le_of_ble_eq_true rfl) rfl d_Nam_init_25 ?_
  exact hR.2.2 _ _ _ d_Nam_init_28 rfl (⟨ms, mw, mf, rfl, rfl⟩)
