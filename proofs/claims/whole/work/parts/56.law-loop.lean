set_option maxHeartbeats 4000000 in
set_option maxRecDepth 100000 in
theorem lp_law {g : JX} {κ : JK} {b L o : Nat} {xs : Nat → Int32} {a : Nat → Nat} {X : Nat → Nat} {x0 tw wb tk kb r0 ha tn bn m0 ms mw mf w0 nr : Nat} {xa : Nat → Nat} {xb : Nat → Nat → Nat} (hL : L ≤ 2048) (C : j_C g κ code "WireDeskLaw" room_1 4) (hX : va_X b L xs (ks κ) (ks κ).heap ∧ b < (ks κ).heap.size ∧ ¬ kA κ b) (hEnd : ∀ (lv : List (Nat × Value)) (ws : va_W), j_V g κ 123 13432 550 lv [.int 1] ws) : ∀ (k i : Nat) (n nk cnt : Nat) (blk db dbm : Bool) (s2 : RS) (pl ra rb rc at_ wr wh : Int32) (tv t v v2 c u0 : Nat → Nat) (d w : Nat → BW) (y : Nat → Nat → Int32) (f : Nat → Nat → Nat → Int32) (F : Nat → Nat → Int32) (vm r rt Q D : Nat → Nat) (W H : Nat → BW) (Y : Nat → Nat), i ≤ L → L + 1 ≤ i + k → n ≤ 2000 → (∀ j, tv j < 256) → DK t nk cnt blk s2 y f v v2 c db → MK t nk cnt blk s2 F vm rt dbm → (∀ j, u0 j < 256) → (∀ j, r j < 256) → (∀ j, Q j < 256) → (∀ j, D j < 256) → j_V g κ 123 13432 18 [(0, .ref b), (1, .ref x0), (2, .ref o), (3, .int (nI i))] [] (dWl g x0 tw wb tk kb r0 ha tn bn m0 ms mw mf w0 nr xa cnt blk pl n tv nk t ra rb rc v v2 d w u0 db c ++ (mWl g o a n nk blk cnt pl tv t F vm r rt Q D W H Y X dbm at_ wr wh ++ txs g xa xb y f)) := by
  intro k
  induction k with
  | zero =>
    intro i n nk cnt blk db dbm s2 pl ra rb rc at_ wr wh tv t v v2 c u0 d w y f F vm r rt Q D W H Y hi hk hn hTv hDK hMK hu0 hr hQ hD
    exfalso; omega
  | succ k ih =>
    intro i n nk cnt blk db dbm s2 pl ra rb rc at_ wr wh tv t v v2 c u0 d w y f F vm r rt Q D W H Y hi hk hn hTv hDK hMK hu0 hr hQ hD
    refine j_iload_n (pc := 18) C d_Law_law_18 rfl 3 rfl ?_
    refine j_aload_n (pc := 19) C d_Law_law_19 rfl 0 rfl ?_
    refine j_slen (pc := 20) C hX d_Law_law_20 ?_
    refine j_iconst (pc := 21) (v := nI 4) C d_Law_law_21 (by decide) ?_
    by_cases h4 : 4 ≤ L
    · skip
      refine j_isubN (pc := 22) C (by omega) d_Law_law_22 ?_
      refine j_icmp_gtN (pc := 23) (tgt := 549) C (by omega) (by omega) d_Law_law_23 rfl (fun c23 => ?_) (fun c23 => ?_)
      · skip
        refine j_iconst (pc := 549) (v := nI 1) C d_Law_law_549 (by decide) ?_
        exact hEnd _ _
      · skip
        refine j_aload_n (pc := 26) C d_Law_law_26 rfl 0 rfl ?_
        refine j_iload_n (pc := 27) C d_Law_law_27 rfl 3 rfl ?_
        refine j_sld (pc := 28) C hX (by omega) (by omega) d_Law_law_28 ?_
        refine j_bipush (pc := 29) (v := nI 15) C d_Law_law_29 (by decide) ?_
        refine j_iand (pc := 31) C d_Law_law_31 ?_
        obtain ⟨q9, hq9, e9⟩ := and15 (xs i)
        refine j_rwi (y := nI q9) e9 ?_
        rcases (by omega : q9 = 0 ∨ q9 = 1 ∨ q9 = 2 ∨ q9 = 3 ∨ q9 = 4 ∨ q9 = 5 ∨ q9 = 6 ∨ q9 = 7 ∨ q9 = 8 ∨ q9 = 9 ∨ q9 = 10 ∨ q9 = 11 ∨ q9 = 12 ∨ q9 = 13 ∨ q9 = 14 ∨ q9 = 15) with rfl | rfl | rfl | rfl | rfl | rfl | rfl | rfl | rfl | rfl | rfl | rfl | rfl | rfl | rfl | rfl
        · skip
          refine j_tableIn (pc := 32) (tgt := 96) C d_Law_law_32 (by decide) (by decide) rfl (by decide) ?_
          refine law_c0 hL C hX (by omega) hn hTv hDK hMK hu0 hr hQ hD ?_
          refine j_sub (sb_sw _ _ _) ?_
          refine j_iinc (pc := 543) (k := 3) (v := nI (i + 4)) (lv' := [(3, .int (nI (i + 4))), (0, .ref b), (1, .ref x0), (2, .ref o)]) C d_Law_law_543 rfl (j_inc _ _) (by decide) rfl ?_
          refine j_goto (pc := 546) (tgt := 18) C d_Law_law_546 rfl ?_
          refine j_lv (lv' := [(0, .ref b), (1, .ref x0), (2, .ref o), (3, .int (nI (i + 4)))]) [1, 2, 3, 0] rfl ?_
          exact ih (i + 4) _ _ _ _ _ _ _ _ _ _ _ _ _ _ _ _ _ _ _ _ _ _ _ _ _ _ _ _ _ _ _ _ _ (by omega) (by omega) (pN_le hn) (pT_lt hTv (fun _ _ => lb_lt _ _)) hDK hMK hu0 hr hQ hD
        · skip
          refine j_tableIn (pc := 32) (tgt := 159) C d_Law_law_32 (by decide) (by decide) rfl (by decide) ?_
          refine law_c1 hL C hX (by omega) hn hTv hDK hMK hu0 hr hQ hD ?_
          refine j_sub (sb_sw _ _ _) ?_
          refine j_iinc (pc := 543) (k := 3) (v := nI (i + 4)) (lv' := [(3, .int (nI (i + 4))), (0, .ref b), (1, .ref x0), (2, .ref o)]) C d_Law_law_543 rfl (j_inc _ _) (by decide) rfl ?_
          refine j_goto (pc := 546) (tgt := 18) C d_Law_law_546 rfl ?_
          refine j_lv (lv' := [(0, .ref b), (1, .ref x0), (2, .ref o), (3, .int (nI (i + 4)))]) [1, 2, 3, 0] rfl ?_
          exact ih (i + 4) _ _ _ _ _ _ _ _ _ _ _ _ _ _ _ _ _ _ _ _ _ _ _ _ _ _ _ _ _ _ _ _ _ (by omega) (by omega) (pN_le hn) (pT_lt hTv (fun _ _ => lb_lt _ _)) hDK hMK hu0 hr hQ hD
        · skip
          refine j_tableIn (pc := 32) (tgt := 222) C d_Law_law_32 (by decide) (by decide) rfl (by decide) ?_
          refine law_c2 hL C hX (by omega) hn hTv hDK hMK hu0 hr hQ hD (fun V hV eV => ?_)
          refine j_sub (sb_sw _ _ _) ?_
          refine j_iinc (pc := 543) (k := 3) (v := nI (i + 4)) (lv' := [(3, .int (nI (i + 4))), (0, .ref b), (1, .ref x0), (2, .ref o)]) C d_Law_law_543 rfl (j_inc _ _) (by decide) rfl ?_
          refine j_goto (pc := 546) (tgt := 18) C d_Law_law_546 rfl ?_
          refine j_lv (lv' := [(0, .ref b), (1, .ref x0), (2, .ref o), (3, .int (nI (i + 4)))]) [1, 2, 3, 0] rfl ?_
          exact ih (i + 4) _ _ _ _ _ _ _ _ _ _ _ _ _ _ _ _ _ _ _ _ _ _ _ _ _ _ _ _ _ _ _ _ _ (by omega) (by omega) (cN_le hn) (cT_lt hTv) hDK hMK hu0 hr hQ hD
        · skip
          refine j_tableIn (pc := 32) (tgt := 275) C d_Law_law_32 (by decide) (by decide) rfl (by decide) ?_
          refine law_c3 hL C hX (by omega) hn hTv hDK hMK hu0 hr hQ hD (fun n1 cnt1 blk1 db1 dbm1 s1 pl1 ra1 rb1 rc1 at1 wr1 wh1 t1 v1 v21 c1 u1 d1 w2 y1 f1 F1 vm1 r1 rt1 Q1 D1 W1 H1 Y1 hDK1 hMK2 hu1 hr1 hQ1 hD1 => ?_)
          refine j_sub (sb_sw _ _ _) ?_
          refine j_iinc (pc := 543) (k := 3) (v := nI (i + 4)) (lv' := [(3, .int (nI (i + 4))), (0, .ref b), (1, .ref x0), (2, .ref o)]) C d_Law_law_543 rfl (j_inc _ _) (by decide) rfl ?_
          refine j_goto (pc := 546) (tgt := 18) C d_Law_law_546 rfl ?_
          refine j_lv (lv' := [(0, .ref b), (1, .ref x0), (2, .ref o), (3, .int (nI (i + 4)))]) [1, 2, 3, 0] rfl ?_
          exact ih (i + 4) _ _ _ _ _ _ _ _ _ _ _ _ _ _ _ _ _ _ _ _ _ _ _ _ _ _ _ _ _ _ _ _ _ (by omega) (by omega) (Nat.zero_le _) hTv hDK1 hMK2 hu1 hr1 hQ1 hD1
        · skip
          refine j_tableIn (pc := 32) (tgt := 314) C d_Law_law_32 (by decide) (by decide) rfl (by decide) ?_
          refine law_c4 hL C hX (by omega) hn hTv hDK hMK hu0 hr hQ hD ?_
          refine j_sub (sb_sw _ _ _) ?_
          refine j_iinc (pc := 543) (k := 3) (v := nI (i + 4)) (lv' := [(3, .int (nI (i + 4))), (0, .ref b), (1, .ref x0), (2, .ref o)]) C d_Law_law_543 rfl (j_inc _ _) (by decide) rfl ?_
          refine j_goto (pc := 546) (tgt := 18) C d_Law_law_546 rfl ?_
          refine j_lv (lv' := [(0, .ref b), (1, .ref x0), (2, .ref o), (3, .int (nI (i + 4)))]) [1, 2, 3, 0] rfl ?_
          exact ih (i + 4) _ _ _ _ _ _ _ _ _ _ _ _ _ _ _ _ _ _ _ _ _ _ _ _ _ _ _ _ _ _ _ _ _ (by omega) (by omega) hn hTv hDK hMK hu0 hr hQ hD
        · skip
          refine j_tableIn (pc := 32) (tgt := 327) C d_Law_law_32 (by decide) (by decide) rfl (by decide) ?_
          refine law_c5 hL C hX (by omega) hn hTv hDK hMK hu0 hr hQ hD ?_
          refine j_sub (sb_sw _ _ _) ?_
          refine j_iinc (pc := 543) (k := 3) (v := nI (i + 4)) (lv' := [(3, .int (nI (i + 4))), (0, .ref b), (1, .ref x0), (2, .ref o)]) C d_Law_law_543 rfl (j_inc _ _) (by decide) rfl ?_
          refine j_goto (pc := 546) (tgt := 18) C d_Law_law_546 rfl ?_
          refine j_lv (lv' := [(0, .ref b), (1, .ref x0), (2, .ref o), (3, .int (nI (i + 4)))]) [1, 2, 3, 0] rfl ?_
          exact ih (i + 4) _ _ _ _ _ _ _ _ _ _ _ _ _ _ _ _ _ _ _ _ _ _ _ _ _ _ _ _ _ _ _ _ _ (by omega) (by omega) hn hTv hDK hMK hu0 hr hQ hD
        · skip
          refine j_tableIn (pc := 32) (tgt := 350) C d_Law_law_32 (by decide) (by decide) rfl (by decide) ?_
          refine law_c6 hL C hX (by omega) hn hTv hDK hMK hu0 hr hQ hD ?_
          refine j_sub (sb_sw _ _ _) ?_
          refine j_iinc (pc := 543) (k := 3) (v := nI (i + 4)) (lv' := [(3, .int (nI (i + 4))), (0, .ref b), (1, .ref x0), (2, .ref o)]) C d_Law_law_543 rfl (j_inc _ _) (by decide) rfl ?_
          refine j_goto (pc := 546) (tgt := 18) C d_Law_law_546 rfl ?_
          refine j_lv (lv' := [(0, .ref b), (1, .ref x0), (2, .ref o), (3, .int (nI (i + 4)))]) [1, 2, 3, 0] rfl ?_
          exact ih (i + 4) _ _ _ _ _ _ _ _ _ _ _ _ _ _ _ _ _ _ _ _ _ _ _ _ _ _ _ _ _ _ _ _ _ (by omega) (by omega) hn hTv hDK hMK hu0 hr hQ hD
        · skip
          refine j_tableIn (pc := 32) (tgt := 374) C d_Law_law_32 (by decide) (by decide) rfl (by decide) ?_
          refine law_c7 hL C hX (by omega) hn hTv hDK hMK hu0 hr hQ hD ?_
          refine j_sub (sb_sw _ _ _) ?_
          refine j_iinc (pc := 543) (k := 3) (v := nI (i + 4)) (lv' := [(3, .int (nI (i + 4))), (0, .ref b), (1, .ref x0), (2, .ref o)]) C d_Law_law_543 rfl (j_inc _ _) (by decide) rfl ?_
          refine j_goto (pc := 546) (tgt := 18) C d_Law_law_546 rfl ?_
          refine j_lv (lv' := [(0, .ref b), (1, .ref x0), (2, .ref o), (3, .int (nI (i + 4)))]) [1, 2, 3, 0] rfl ?_
          exact ih (i + 4) _ _ _ _ _ _ _ _ _ _ _ _ _ _ _ _ _ _ _ _ _ _ _ _ _ _ _ _ _ _ _ _ _ (by omega) (by omega) hn hTv hDK hMK hu0 hr hQ hD
        · skip
          refine j_tableIn (pc := 32) (tgt := 408) C d_Law_law_32 (by decide) (by decide) rfl (by decide) ?_
          refine law_c8 hL C hX (by omega) hn hTv hDK hMK hu0 hr hQ hD ?_
          refine j_sub (sb_sw _ _ _) ?_
          refine j_iinc (pc := 543) (k := 3) (v := nI (i + 4)) (lv' := [(3, .int (nI (i + 4))), (0, .ref b), (1, .ref x0), (2, .ref o)]) C d_Law_law_543 rfl (j_inc _ _) (by decide) rfl ?_
          refine j_goto (pc := 546) (tgt := 18) C d_Law_law_546 rfl ?_
          refine j_lv (lv' := [(0, .ref b), (1, .ref x0), (2, .ref o), (3, .int (nI (i + 4)))]) [1, 2, 3, 0] rfl ?_
          exact ih (i + 4) _ _ _ _ _ _ _ _ _ _ _ _ _ _ _ _ _ _ _ _ _ _ _ _ _ _ _ _ _ _ _ _ _ (by omega) (by omega) hn hTv hDK hMK hu0 hr hQ hD
        · skip
          refine j_tableIn (pc := 32) (tgt := 452) C d_Law_law_32 (by decide) (by decide) rfl (by decide) ?_
          refine law_c9 hL C hX (by omega) hn hTv hDK hMK hu0 hr hQ hD ?_
          refine j_sub (sb_sw _ _ _) ?_
          refine j_iinc (pc := 543) (k := 3) (v := nI (i + 4)) (lv' := [(3, .int (nI (i + 4))), (0, .ref b), (1, .ref x0), (2, .ref o)]) C d_Law_law_543 rfl (j_inc _ _) (by decide) rfl ?_
          refine j_goto (pc := 546) (tgt := 18) C d_Law_law_546 rfl ?_
          refine j_lv (lv' := [(0, .ref b), (1, .ref x0), (2, .ref o), (3, .int (nI (i + 4)))]) [1, 2, 3, 0] rfl ?_
          exact ih (i + 4) _ _ _ _ _ _ _ _ _ _ _ _ _ _ _ _ _ _ _ _ _ _ _ _ _ _ _ _ _ _ _ _ _ (by omega) (by omega) hn hTv hDK hMK hu0 hr hQ hD
        · skip
          refine j_tableIn (pc := 32) (tgt := 496) C d_Law_law_32 (by decide) (by decide) rfl (by decide) ?_
          refine law_c10 hL C hX (by omega) hn hTv hDK hMK hu0 hr hQ hD ?_
          refine j_sub (sb_sw _ _ _) ?_
          refine j_iinc (pc := 543) (k := 3) (v := nI (i + 4)) (lv' := [(3, .int (nI (i + 4))), (0, .ref b), (1, .ref x0), (2, .ref o)]) C d_Law_law_543 rfl (j_inc _ _) (by decide) rfl ?_
          refine j_goto (pc := 546) (tgt := 18) C d_Law_law_546 rfl ?_
          refine j_lv (lv' := [(0, .ref b), (1, .ref x0), (2, .ref o), (3, .int (nI (i + 4)))]) [1, 2, 3, 0] rfl ?_
          exact ih (i + 4) _ _ _ _ _ _ _ _ _ _ _ _ _ _ _ _ _ _ _ _ _ _ _ _ _ _ _ _ _ _ _ _ _ (by omega) (by omega) hn hTv hDK hMK hu0 hr hQ hD
        · skip
          refine j_tableIn (pc := 32) (tgt := 530) C d_Law_law_32 (by decide) (by decide) rfl (by decide) ?_
          refine law_c11 hL C hX (by omega) hn hTv hDK hMK hu0 hr hQ hD ?_
          refine j_sub (sb_sw _ _ _) ?_
          refine j_iinc (pc := 543) (k := 3) (v := nI (i + 4)) (lv' := [(3, .int (nI (i + 4))), (0, .ref b), (1, .ref x0), (2, .ref o)]) C d_Law_law_543 rfl (j_inc _ _) (by decide) rfl ?_
          refine j_goto (pc := 546) (tgt := 18) C d_Law_law_546 rfl ?_
          refine j_lv (lv' := [(0, .ref b), (1, .ref x0), (2, .ref o), (3, .int (nI (i + 4)))]) [1, 2, 3, 0] rfl ?_
          exact ih (i + 4) _ _ _ _ _ _ _ _ _ _ _ _ _ _ _ _ _ _ _ _ _ _ _ _ _ _ _ _ _ _ _ _ _ (by omega) (by omega) hn hTv hDK hMK hu0 hr hQ hD
        · skip
          refine j_tableOut (pc := 32) (tgt := 543) C d_Law_law_32 (by decide) (by decide) ?_
          refine j_iinc (pc := 543) (k := 3) (v := nI (i + 4)) (lv' := [(3, .int (nI (i + 4))), (0, .ref b), (1, .ref x0), (2, .ref o)]) C d_Law_law_543 rfl (j_inc _ _) (by decide) rfl ?_
          refine j_goto (pc := 546) (tgt := 18) C d_Law_law_546 rfl ?_
          refine j_lv (lv' := [(0, .ref b), (1, .ref x0), (2, .ref o), (3, .int (nI (i + 4)))]) [1, 2, 3, 0] rfl ?_
          exact ih (i + 4) _ _ _ _ _ _ _ _ _ _ _ _ _ _ _ _ _ _ _ _ _ _ _ _ _ _ _ _ _ _ _ _ _ (by omega) (by omega) hn hTv hDK hMK hu0 hr hQ hD
        · skip
          refine j_tableOut (pc := 32) (tgt := 543) C d_Law_law_32 (by decide) (by decide) ?_
          refine j_iinc (pc := 543) (k := 3) (v := nI (i + 4)) (lv' := [(3, .int (nI (i + 4))), (0, .ref b), (1, .ref x0), (2, .ref o)]) C d_Law_law_543 rfl (j_inc _ _) (by decide) rfl ?_
          refine j_goto (pc := 546) (tgt := 18) C d_Law_law_546 rfl ?_
          refine j_lv (lv' := [(0, .ref b), (1, .ref x0), (2, .ref o), (3, .int (nI (i + 4)))]) [1, 2, 3, 0] rfl ?_
          exact ih (i + 4) _ _ _ _ _ _ _ _ _ _ _ _ _ _ _ _ _ _ _ _ _ _ _ _ _ _ _ _ _ _ _ _ _ (by omega) (by omega) hn hTv hDK hMK hu0 hr hQ hD
        · skip
          refine j_tableOut (pc := 32) (tgt := 543) C d_Law_law_32 (by decide) (by decide) ?_
          refine j_iinc (pc := 543) (k := 3) (v := nI (i + 4)) (lv' := [(3, .int (nI (i + 4))), (0, .ref b), (1, .ref x0), (2, .ref o)]) C d_Law_law_543 rfl (j_inc _ _) (by decide) rfl ?_
          refine j_goto (pc := 546) (tgt := 18) C d_Law_law_546 rfl ?_
          refine j_lv (lv' := [(0, .ref b), (1, .ref x0), (2, .ref o), (3, .int (nI (i + 4)))]) [1, 2, 3, 0] rfl ?_
          exact ih (i + 4) _ _ _ _ _ _ _ _ _ _ _ _ _ _ _ _ _ _ _ _ _ _ _ _ _ _ _ _ _ _ _ _ _ (by omega) (by omega) hn hTv hDK hMK hu0 hr hQ hD
        · skip
          refine j_tableOut (pc := 32) (tgt := 543) C d_Law_law_32 (by decide) (by decide) ?_
          refine j_iinc (pc := 543) (k := 3) (v := nI (i + 4)) (lv' := [(3, .int (nI (i + 4))), (0, .ref b), (1, .ref x0), (2, .ref o)]) C d_Law_law_543 rfl (j_inc _ _) (by decide) rfl ?_
          refine j_goto (pc := 546) (tgt := 18) C d_Law_law_546 rfl ?_
          refine j_lv (lv' := [(0, .ref b), (1, .ref x0), (2, .ref o), (3, .int (nI (i + 4)))]) [1, 2, 3, 0] rfl ?_
          exact ih (i + 4) _ _ _ _ _ _ _ _ _ _ _ _ _ _ _ _ _ _ _ _ _ _ _ _ _ _ _ _ _ _ _ _ _ (by omega) (by omega) hn hTv hDK hMK hu0 hr hQ hD
    · skip
      refine j_isub (pc := 22) C d_Law_law_22 ?_
      refine j_icmp_gt (pc := 23) (tgt := 549) C d_Law_law_23 rfl (fun c23 => ?_) (fun c23 => ?_)
      · skip
        refine j_iconst (pc := 549) (v := nI 1) C d_Law_law_549 (by decide) ?_
        exact hEnd _ _
      · skip
        exact absurd (l4 L (by omega) i (by omega)) c23
