abbrev rm_Rea_begin : Room := { frames := 0, cells := 0, slots := 0, locals := 0 }
set_option maxHeartbeats 4000000 in
set_option maxRecDepth 100000 in
theorem c_Rea_begin (l : Launch) (g : JX) (r0 th : Nat) (a b c : Int32)  : j_Ct l y_Rea_begin b_Rea_begin 1 none rm_Rea_begin g ([(r0, .inr (2, [.ref th, .int a, .int b, .int c]))]) [.ref r0] (fun r w => r = none ∧ w = [(r0, .inr (2, [.ref th, .int (nI 0), .int (nI 0), .int (-1 : Int32)]))]) 0 0 := by
  refine j_ct (by decide) (Nat.le_of_ble_eq_true rfl) (fun κ hkl C hR hI => ?_)
  show j_V g κ 0 0 0 [(0, .ref r0)] [] ([(r0, .inr (2, [.ref th, .int a, .int b, .int c]))])
  refine j_aload_n (pc := 0) C d_Rea_begin_0 rfl 0 rfl ?_
  refine j_iconst (pc := 1) (v := nI 0) C d_Rea_begin_1 (by decide) ?_
  refine j_put (pc := 2) (ws' := [(r0, .inr (2, [.ref th, .int (nI 0), .int b, .int c]))]) C Fp_Rea_18 0 rfl rfl (by first | rfl | decide) (Nat.le_of_ble_eq_true rfl) rfl d_Rea_begin_2 ?_
  refine j_aload_n (pc := 5) C d_Rea_begin_5 rfl 0 rfl ?_
  refine j_iconst (pc := 6) (v := nI 0) C d_Rea_begin_6 (by decide) ?_
  refine j_put (pc := 7) (ws' := [(r0, .inr (2, [.ref th, .int (nI 0), .int (nI 0), .int c]))]) C Fp_Rea_22 0 rfl rfl (by first | rfl | decide) (Nat.le_of_ble_eq_true rfl) rfl d_Rea_begin_7 ?_
  refine j_aload_n (pc := 10) C d_Rea_begin_10 rfl 0 rfl ?_
  refine j_iconst (pc := 11) (v := (-1 : Int32)) C d_Rea_begin_11 (by decide) ?_
  refine j_put (pc := 12) (ws' := [(r0, .inr (2, [.ref th, .int (nI 0), .int (nI 0), .int (-1 : Int32)]))]) C Fp_Rea_25 0 rfl rfl (by first | rfl | decide) (Nat.le_of_ble_eq_true rfl) rfl d_Rea_begin_12 ?_
  exact hR.2.2 _ _ _ d_Rea_begin_15 rfl (⟨rfl, rfl⟩)
abbrev rm_Rea_init : Room := { frames := 2, cells := 2, slots := 2002, locals := 40 }
set_option maxHeartbeats 4000000 in
set_option maxRecDepth 100000 in
theorem c_Rea_init (l : Launch) (g : JX) (r0 : Nat)  : j_Ct l y_Rea_init b_Rea_init 1 none rm_Rea_init g ([(r0, .inr (2, [.null, .int (0 : Int32), .int (0 : Int32), .int (0 : Int32)]))]) [.ref r0] (fun r w => ∃ th hb : Nat, r = none ∧ w = [(r0, .inr (2, [.ref th, .int (nI 0), .int (nI 0), .int (-1 : Int32)])), (th, .inr (3, [.ref hb, .int (nI 0)])), (hb, .inl (aB g, 2000, .inl (bf (fun _ => 0))))]) 2 2002 := by
  refine j_ct (by decide) (Nat.le_of_ble_eq_true rfl) (fun κ hkl C hR hI => ?_)
  show j_V g κ 0 0 0 [(0, .ref r0)] [] ([(r0, .inr (2, [.null, .int (0 : Int32), .int (0 : Int32), .int (0 : Int32)]))])
  refine j_aload_n (pc := 0) C d_Rea_init_0 rfl 0 rfl ?_
  refine j_objInit (pc := 1) C oi_Rea_3 oi_i oi_c (by decide) (Nat.le_of_ble_eq_true rfl) d_Rea_init_1 ?_
  refine j_aload_n (pc := 4) C d_Rea_init_4 rfl 0 rfl ?_
  refine j_new (pc := 5) C N_Rea_9 (by decide) (by decide) d_Rea_init_5 (fun th => ?_)
  show j_V g κ 1 2 8 [(0, .ref r0)] [.ref th, .ref r0] ([(r0, .inr (2, [.null, .int (0 : Int32), .int (0 : Int32), .int (0 : Int32)])), (th, .inr (3, [.null, .int (0 : Int32)]))])
  refine j_dup (pc := 8) C d_Rea_init_8 rfl ?_
  refine j_callIN (pc := 9) (As := []) (rest := [.ref th, .ref r0]) (wc := [(th, .inr (3, [.null, .int (0 : Int32)]))]) (wr := [(r0, .inr (2, [.null, .int (0 : Int32), .int (0 : Int32), .int (0 : Int32)]))]) C (c_Txt_init (kl κ) g th) Y_Txt_init rfl ml_Rea_11 im_Txt_init rfl ⟨by decide, by decide⟩ rfl (Nat.le_of_ble_eq_true rfl) (j_sb [1, 0] rfl rfl) rfl d_Rea_init_9 (fun r w1 hO => ?_)
  obtain ⟨hb, rfl, rfl⟩ := hO
  show j_V g κ 2 2002 12 [(0, .ref r0)] [.ref th, .ref r0] ([(th, .inr (3, [.ref hb, .int (nI 0)])), (hb, .inl (aB g, 2000, .inl (bf (fun _ => 0)))), (r0, .inr (2, [.null, .int (0 : Int32), .int (0 : Int32), .int (0 : Int32)]))])
  refine j_putF (pc := 12) (ws' := [(th, .inr (3, [.ref hb, .int (nI 0)])), (hb, .inl (aB g, 2000, .inl (bf (fun _ => 0)))), (r0, .inr (2, [.ref th, .int (0 : Int32), .int (0 : Int32), .int (0 : Int32)]))]) C hI Fp_Rea_12 2 rfl rfl (by first | rfl | decide) (Nat.le_of_ble_eq_true rfl) rfl d_Rea_init_12 ?_
  refine j_aload_n (pc := 15) C d_Rea_init_15 rfl 0 rfl ?_
  refine j_iconst (pc := 16) (v := nI 0) C d_Rea_init_16 (by decide) ?_
  refine j_put (pc := 17) (ws' := [(th, .inr (3, [.ref hb, .int (nI 0)])), (hb, .inl (aB g, 2000, .inl (bf (fun _ => 0)))), (r0, .inr (2, [.ref th, .int (nI 0), .int (0 : Int32), .int (0 : Int32)]))]) C Fp_Rea_18 2 rfl rfl (by first | rfl | decide) (Nat.le_of_ble_eq_true rfl) rfl d_Rea_init_17 ?_
  refine j_aload_n (pc := 20) C d_Rea_init_20 rfl 0 rfl ?_
  refine j_iconst (pc := 21) (v := nI 0) C d_Rea_init_21 (by decide) ?_
  refine j_put (pc := 22) (ws' := [(th, .inr (3, [.ref hb, .int (nI 0)])), (hb, .inl (aB g, 2000, .inl (bf (fun _ => 0)))), (r0, .inr (2, [.ref th, .int (nI 0), .int (nI 0), .int (0 : Int32)]))]) C Fp_Rea_22 2 rfl rfl (by first | rfl | decide) (Nat.le_of_ble_eq_true rfl) rfl d_Rea_init_22 ?_
  refine j_aload_n (pc := 25) C d_Rea_init_25 rfl 0 rfl ?_
  refine j_iconst (pc := 26) (v := (-1 : Int32)) C d_Rea_init_26 (by decide) ?_
  refine j_put (pc := 27) (ws' := [(th, .inr (3, [.ref hb, .int (nI 0)])), (hb, .inl (aB g, 2000, .inl (bf (fun _ => 0)))), (r0, .inr (2, [.ref th, .int (nI 0), .int (nI 0), .int (-1 : Int32)]))]) C Fp_Rea_25 2 rfl rfl (by first | rfl | decide) (Nat.le_of_ble_eq_true rfl) rfl d_Rea_init_27 ?_
  refine j_sub (ws' := [(r0, .inr (2, [.ref th, .int (nI 0), .int (nI 0), .int (-1 : Int32)])), (th, .inr (3, [.ref hb, .int (nI 0)])), (hb, .inl (aB g, 2000, .inl (bf (fun _ => 0))))]) (j_sb [2, 0, 1] rfl rfl) ?_
  exact hR.2.2 _ _ _ d_Rea_init_30 rfl (⟨th, hb, rfl, rfl⟩)
abbrev rm_Rea_finish : Room := { frames := 1, cells := 0, slots := 0, locals := 22 }
set_option maxHeartbeats 4000000 in
set_option maxRecDepth 100000 in
theorem c_Rea_finish (l : Launch) (g : JX) (r0 th hb n : Nat) (s : RS) (q : Int32) (hn : n ≤ 2000) (hs : ROk n s) : j_Ct l y_Rea_finish b_Rea_finish 1 none rm_Rea_finish g ([(r0, .inr (2, [.ref th, .int (rN s q), .int (nI (rF s)), .int (rP s)])), (th, .inr (3, [.ref hb, .int (nI n)]))]) [.ref r0] (fun r w => ∃ q1 : Int32, r = none ∧ w = [(r0, .inr (2, [.ref th, .int (rN (rFin n s) q1), .int (nI (rF (rFin n s))), .int (rP (rFin n s))])), (th, .inr (3, [.ref hb, .int (nI n)]))]) 0 0 := by
  refine j_ct (by decide) (Nat.le_of_ble_eq_true rfl) (fun κ hkl C hR hI => ?_)
  show j_V g κ 0 0 0 [(0, .ref r0)] [] ([(r0, .inr (2, [.ref th, .int (rN s q), .int (nI (rF s)), .int (rP s)])), (th, .inr (3, [.ref hb, .int (nI n)]))])
  rcases s with p | ⟨f, w⟩
  · have hp : p ≤ n := hs
    show j_V g κ 0 0 0 [(0, .ref r0)] [] ([(r0, .inr (2, [.ref th, .int (nI p), .int (nI 0), .int (-1 : Int32)])), (th, .inr (3, [.ref hb, .int (nI n)]))])
    refine j_aload_n (pc := 0) C d_Rea_finish_0 rfl 0 rfl ?_
    refine j_get (pc := 1) C F_Rea_18 0 rfl rfl d_Rea_finish_1 ?_
    refine j_aload_n (pc := 4) C d_Rea_finish_4 rfl 0 rfl ?_
    refine j_get (pc := 5) C F_Rea_12 0 rfl rfl d_Rea_finish_5 ?_
    refine j_get (pc := 8) C F_Rea_28 1 rfl rfl d_Rea_finish_8 ?_
    refine j_icmp_geN (pc := 11) (tgt := 23) C (by omega) (by omega) d_Rea_finish_11 rfl (fun c11 => ?_) (fun c11 => ?_)
    · skip
      exact hR.2.2 _ _ _ d_Rea_finish_23 rfl (by first | exact ⟨q, rfl, rfl⟩ | (rw [show rFin n (.inl p) = .inr (4, p) from if_pos (by omega)]; exact ⟨_, rfl, rfl⟩) | (rw [show rFin n (.inl p) = .inl p from if_neg (by omega)]; exact ⟨0, rfl, rfl⟩))
    · skip
      refine j_aload_n (pc := 14) C d_Rea_finish_14 rfl 0 rfl ?_
      refine j_iconst (pc := 15) (v := nI 4) C d_Rea_finish_15 (by decide) ?_
      refine j_aload_n (pc := 16) C d_Rea_finish_16 rfl 0 rfl ?_
      refine j_get (pc := 17) C F_Rea_18 0 rfl rfl d_Rea_finish_17 ?_
      refine j_callV (pc := 20) (As := [.int (nI 4), .int (nI p)]) (rest := []) (wc := [(r0, .inr (2, [.ref th, .int (nI p), .int (nI 0), .int (-1 : Int32)]))]) (wr := [(th, .inr (3, [.ref hb, .int (nI n)]))]) C (c_Rea_fail (kl κ) g r0 th (nI p) (-1 : Int32) (nI 4) (nI p)) Y_Rea_fail ml_Rea_31 im_Rea_fail sl_Rea_fail rfl ⟨by decide, by decide⟩ rfl (ci := 2) (q0 := 0) rfl rfl rfl (Nat.le_of_ble_eq_true rfl) (j_sb [0, 1] rfl rfl) rfl d_Rea_finish_20 (fun r w1 hO => ?_)
      obtain ⟨rfl, rfl⟩ := hO
      show j_V g κ 0 0 23 [(0, .ref r0)] [] ([(r0, .inr (2, [.ref th, .int (nI p), .int (nI 4), .int (nI p)])), (th, .inr (3, [.ref hb, .int (nI n)]))])
      exact hR.2.2 _ _ _ d_Rea_finish_23 rfl (by first | exact ⟨q, rfl, rfl⟩ | (rw [show rFin n (.inl p) = .inr (4, p) from if_pos (by omega)]; exact ⟨_, rfl, rfl⟩) | (rw [show rFin n (.inl p) = .inl p from if_neg (by omega)]; exact ⟨0, rfl, rfl⟩))
  · obtain ⟨hf, hf2, hw⟩ : 0 < f ∧ f < 5 ∧ w ≤ n := hs
    show j_V g κ 0 0 0 [(0, .ref r0)] [] ([(r0, .inr (2, [.ref th, .int q, .int (nI f), .int (nI w)])), (th, .inr (3, [.ref hb, .int (nI n)]))])
    refine j_aload_n (pc := 0) C d_Rea_finish_0 rfl 0 rfl ?_
    refine j_get (pc := 1) C F_Rea_18 0 rfl rfl d_Rea_finish_1 ?_
    refine j_aload_n (pc := 4) C d_Rea_finish_4 rfl 0 rfl ?_
    refine j_get (pc := 5) C F_Rea_12 0 rfl rfl d_Rea_finish_5 ?_
    refine j_get (pc := 8) C F_Rea_28 1 rfl rfl d_Rea_finish_8 ?_
    refine j_icmp_ge (pc := 11) (tgt := 23) C d_Rea_finish_11 rfl (fun c11 => ?_) (fun c11 => ?_)
    · skip
      exact hR.2.2 _ _ _ d_Rea_finish_23 rfl (by first | exact ⟨q, rfl, rfl⟩ | (rw [show rFin n (.inl p) = .inr (4, p) from if_pos (by omega)]; exact ⟨_, rfl, rfl⟩) | (rw [show rFin n (.inl p) = .inl p from if_neg (by omega)]; exact ⟨0, rfl, rfl⟩))
    · skip
      refine j_aload_n (pc := 14) C d_Rea_finish_14 rfl 0 rfl ?_
      refine j_iconst (pc := 15) (v := nI 4) C d_Rea_finish_15 (by decide) ?_
      refine j_aload_n (pc := 16) C d_Rea_finish_16 rfl 0 rfl ?_
      refine j_get (pc := 17) C F_Rea_18 0 rfl rfl d_Rea_finish_17 ?_
      refine j_callV (pc := 20) (As := [.int (nI 4), .int q]) (rest := []) (wc := [(r0, .inr (2, [.ref th, .int q, .int (nI f), .int (nI w)]))]) (wr := [(th, .inr (3, [.ref hb, .int (nI n)]))]) C (c_Rea_fail2 (kl κ) g r0 th f q (nI w) (nI 4) q (by omega) (by omega)) Y_Rea_fail ml_Rea_31 im_Rea_fail sl_Rea_fail rfl ⟨by decide, by decide⟩ rfl (ci := 2) (q0 := 0) rfl rfl rfl (Nat.le_of_ble_eq_true rfl) (j_sb [0, 1] rfl rfl) rfl d_Rea_finish_20 (fun r w1 hO => ?_)
      obtain ⟨rfl, rfl⟩ := hO
      show j_V g κ 0 0 23 [(0, .ref r0)] [] ([(r0, .inr (2, [.ref th, .int q, .int (nI f), .int (nI w)])), (th, .inr (3, [.ref hb, .int (nI n)]))])
      exact hR.2.2 _ _ _ d_Rea_finish_23 rfl (by first | exact ⟨q, rfl, rfl⟩ | (rw [show rFin n (.inl p) = .inr (4, p) from if_pos (by omega)]; exact ⟨_, rfl, rfl⟩) | (rw [show rFin n (.inl p) = .inl p from if_neg (by omega)]; exact ⟨0, rfl, rfl⟩))
abbrev rm_Rea_takeBlock : Room := { frames := 5, cells := 0, slots := 0, locals := 114 }
set_option maxHeartbeats 4000000 in
set_option maxRecDepth 100000 in
theorem lp_tb {g : JX} {κ : JK} {r0 th hb ha n cnt : Nat} {xa : Nat → Nat} {xb : Nat → Nat → Nat} {t : Nat → Nat} {s2 : RS} (hn : n ≤ 2000) (hT : ∀ j, t j < 256) (hs : ROk n s2) (hc : cnt ≤ 12) (C : j_C g κ b_Rea_takeBlock R_Rea rm_Rea_takeBlock 4) (hR : j_R g κ b_Rea_takeBlock (some .int) (fun r w => ∃ (q1 : Int32) (y1 : Nat → Nat → Int32) (f1 : Nat → Nat → Nat → Int32), r = some (.int (nI cnt)) ∧ w = [(r0, .inr (2, [.ref th, .int (rN (itN (rTx t n) cnt s2) q1), .int (nI (rF (itN (rTx t n) cnt s2))), .int (rP (itN (rTx t n) cnt s2))])), (th, .inr (3, [.ref hb, .int (nI n)])), (hb, .inl (aB g, 2000, .inl (bf t))), (ha, .inl (aQ g, 12, .inr (.inr (.inr (.inr (fun j => some (xa j)))))))] ++ txs g xa xb y1 f1 ∧ ∀ p, itN (rTx t n) cnt s2 = .inl p → TxAll t n s2 cnt y1 f1) 0 0) : ∀ (k : Nat) (u : Nat) (q : Int32) (y : Nat → Nat → Int32) (f : Nat → Nat → Nat → Int32), u ≤ cnt → cnt + 1 ≤ u + k → TxAll t n s2 u y f → j_V g κ (0) (0) 15 [(0, .ref r0), (1, .ref ha), (2, .int (nI cnt)), (3, .int (nI u))] [] ([(r0, .inr (2, [.ref th, .int (rN (itN (rTx t n) u s2) q), .int (nI (rF (itN (rTx t n) u s2))), .int (rP (itN (rTx t n) u s2))])), (th, .inr (3, [.ref hb, .int (nI n)])), (hb, .inl (aB g, 2000, .inl (bf t))), (ha, .inl (aQ g, 12, .inr (.inr (.inr (.inr (fun j => some (xa j)))))))] ++ txs g xa xb y f) := by
  intro k
  induction k with
  | zero =>
    intro u q y f hu hk hH
    exfalso; omega
  | succ k ih =>
    intro u q y f hu hk hH
    refine j_iload_n (pc := 15) C d_Rea_takeBlock_15 rfl 3 rfl ?_
    refine j_iload_n (pc := 16) C d_Rea_takeBlock_16 rfl 2 rfl ?_
    refine j_icmp_geN (pc := 17) (tgt := 46) C (by omega) (by omega) d_Rea_takeBlock_17 rfl (fun c17 => ?_) (fun c17 => ?_)
    · skip
      refine j_iload_n (pc := 46) C d_Rea_takeBlock_46 rfl 2 rfl ?_
      exact hR.1 _ _ _ _ d_Rea_takeBlock_47 ⟨_, rfl, by first | rfl | decide⟩ (by first | (have e9 : u = cnt := (by omega); subst e9; exact ⟨q, y, f, rfl, rfl, fun p hp => hH⟩) | (have e := itN_bad c30 cnt hu; rw [e]; exact ⟨q, y, f, rfl, rfl, fun p hp => by rw [hp] at c30; exact absurd c30 (Nat.lt_irrefl 0)⟩))
    · skip
      refine j_iload_n (pc := 20) C d_Rea_takeBlock_20 rfl 3 rfl ?_
      refine j_aload_n (pc := 21) C d_Rea_takeBlock_21 rfl 1 rfl ?_
      refine j_alen (pc := 22) (v := nI 12) C 3 2 rfl rfl rfl d_Rea_takeBlock_22 ?_
      refine j_icmp_geN (pc := 23) (tgt := 46) C (by omega) (by omega) d_Rea_takeBlock_23 rfl (fun c23 => ?_) (fun c23 => ?_)
      · skip
        exfalso; omega
      · skip
        refine j_aload_n (pc := 26) C d_Rea_takeBlock_26 rfl 0 rfl ?_
        have hrf : rF (itN (rTx t n) u s2) < 5 := rF_lt (itN_R (fun _ => rTx_R) u hs)
        refine j_get (pc := 27) C F_Rea_22 0 rfl rfl d_Rea_takeBlock_27 ?_
        refine j_if_neN (pc := 30) (tgt := 46) C (by omega) d_Rea_takeBlock_30 rfl (fun c30 => ?_) (fun c30 => ?_)
        · skip
          refine j_iload_n (pc := 46) C d_Rea_takeBlock_46 rfl 2 rfl ?_
          exact hR.1 _ _ _ _ d_Rea_takeBlock_47 ⟨_, rfl, by first | rfl | decide⟩ (by first | (have e9 : u = cnt := (by omega); subst e9; exact ⟨q, y, f, rfl, rfl, fun p hp => hH⟩) | (have e := itN_bad c30 cnt hu; rw [e]; exact ⟨q, y, f, rfl, rfl, fun p hp => by rw [hp] at c30; exact absurd c30 (Nat.lt_irrefl 0)⟩))
        · skip
          refine j_aload_n (pc := 33) C d_Rea_takeBlock_33 rfl 0 rfl ?_
          refine j_aload_n (pc := 34) C d_Rea_takeBlock_34 rfl 1 rfl ?_
          refine j_iload_n (pc := 35) C d_Rea_takeBlock_35 rfl 3 rfl ?_
          refine j_aaldN (pc := 36) (b := xa u) C 3 2 rfl rfl (by omega) (by omega) rfl d_Rea_takeBlock_36 ?_
          refine j_sub (ws' := [(r0, .inr (2, [.ref th, .int (rN (itN (rTx t n) u s2) q), .int (nI (rF (itN (rTx t n) u s2))), .int (rP (itN (rTx t n) u s2))])), (th, .inr (3, [.ref hb, .int (nI n)])), (hb, .inl (aB g, 2000, .inl (bf t))), (ha, .inl (aQ g, 12, .inr (.inr (.inr (.inr (fun j => some (xa j))))))), (xa u, .inr (4, [.int (y u 0), .int (y u 1), .int (y u 2), .int (y u 3), .ref (xb u 1), .ref (xb u 2), .ref (xb u 3), .ref (xb u 4), .ref (xb u 5), .ref (xb u 6)])), (xb u 1, .inl (aI g, 8, .inl (f u 1))), (xb u 2, .inl (aI g, 8, .inl (f u 2))), (xb u 3, .inl (aI g, 8, .inl (f u 3))), (xb u 4, .inl (aI g, 8, .inl (f u 4))), (xb u 5, .inl (aI g, 8, .inl (f u 5))), (xb u 6, .inl (aI g, 8, .inl (f u 6)))] ++ txB g xa xb y f u) (by exact txs_open (g := g) (xa := xa) (xb := xb) (y := y) (f := f) (u := u) [(r0, .inr (2, [.ref th, .int (rN (itN (rTx t n) u s2) q), .int (nI (rF (itN (rTx t n) u s2))), .int (rP (itN (rTx t n) u s2))])), (th, .inr (3, [.ref hb, .int (nI n)])), (hb, .inl (aB g, 2000, .inl (bf t))), (ha, .inl (aQ g, 12, .inr (.inr (.inr (.inr (fun j => some (xa j)))))))] (by omega)) ?_
          refine j_callV (pc := 37) (As := [.ref (xa u)]) (rest := []) (wc := [(r0, .inr (2, [.ref th, .int (rN (itN (rTx t n) u s2) q), .int (nI (rF (itN (rTx t n) u s2))), .int (rP (itN (rTx t n) u s2))])), (th, .inr (3, [.ref hb, .int (nI n)])), (hb, .inl (aB g, 2000, .inl (bf t))), (xa u, .inr (4, [.int (y u 0), .int (y u 1), .int (y u 2), .int (y u 3), .ref (xb u 1), .ref (xb u 2), .ref (xb u 3), .ref (xb u 4), .ref (xb u 5), .ref (xb u 6)])), (xb u 1, .inl (aI g, 8, .inl (f u 1))), (xb u 2, .inl (aI g, 8, .inl (f u 2))), (xb u 3, .inl (aI g, 8, .inl (f u 3))), (xb u 4, .inl (aI g, 8, .inl (f u 4))), (xb u 5, .inl (aI g, 8, .inl (f u 5))), (xb u 6, .inl (aI g, 8, .inl (f u 6)))]) (wr := [(ha, .inl (aQ g, 12, .inr (.inr (.inr (.inr (fun j => some (xa j)))))))] ++ txB g xa xb y f u) C (c_Rea_takeTransaction (kl κ) g r0 th hb (xa u) n (xb u) t (itN (rTx t n) u s2) q (y u) (f u) (by omega) hT (itN_R (fun _ => rTx_R) u hs)) Y_Rea_takeTransaction ml_Rea_43 im_Rea_takeTransaction sl_Rea_takeTransaction rfl ⟨by decide, by decide⟩ rfl (ci := 2) (q0 := 0) rfl rfl rfl (Nat.le_of_ble_eq_true rfl) (by exact j_Sb.app (a := [(r0, .inr (2, [.ref th, .int (rN (itN (rTx t n) u s2) q), .int (nI (rF (itN (rTx t n) u s2))), .int (rP (itN (rTx t n) u s2))])), (th, .inr (3, [.ref hb, .int (nI n)])), (hb, .inl (aB g, 2000, .inl (bf t))), (ha, .inl (aQ g, 12, .inr (.inr (.inr (.inr (fun j => some (xa j))))))), (xa u, .inr (4, [.int (y u 0), .int (y u 1), .int (y u 2), .int (y u 3), .ref (xb u 1), .ref (xb u 2), .ref (xb u 3), .ref (xb u 4), .ref (xb u 5), .ref (xb u 6)])), (xb u 1, .inl (aI g, 8, .inl (f u 1))), (xb u 2, .inl (aI g, 8, .inl (f u 2))), (xb u 3, .inl (aI g, 8, .inl (f u 3))), (xb u 4, .inl (aI g, 8, .inl (f u 4))), (xb u 5, .inl (aI g, 8, .inl (f u 5))), (xb u 6, .inl (aI g, 8, .inl (f u 6)))]) (b := [(r0, .inr (2, [.ref th, .int (rN (itN (rTx t n) u s2) q), .int (nI (rF (itN (rTx t n) u s2))), .int (rP (itN (rTx t n) u s2))])), (th, .inr (3, [.ref hb, .int (nI n)])), (hb, .inl (aB g, 2000, .inl (bf t))), (xa u, .inr (4, [.int (y u 0), .int (y u 1), .int (y u 2), .int (y u 3), .ref (xb u 1), .ref (xb u 2), .ref (xb u 3), .ref (xb u 4), .ref (xb u 5), .ref (xb u 6)])), (xb u 1, .inl (aI g, 8, .inl (f u 1))), (xb u 2, .inl (aI g, 8, .inl (f u 2))), (xb u 3, .inl (aI g, 8, .inl (f u 3))), (xb u 4, .inl (aI g, 8, .inl (f u 4))), (xb u 5, .inl (aI g, 8, .inl (f u 5))), (xb u 6, .inl (aI g, 8, .inl (f u 6))), (ha, .inl (aQ g, 12, .inr (.inr (.inr (.inr (fun j => some (xa j)))))))]) (j_sb [0, 1, 2, 4, 5, 6, 7, 8, 9, 10, 3] rfl rfl) (txB g xa xb y f u)) rfl d_Rea_takeBlock_37 (fun r w1 hO => ?_)
          obtain ⟨qa1, y1, f1, rfl, rfl, hX1⟩ := hO
          show j_V g κ 0 0 40 [(0, .ref r0), (1, .ref ha), (2, .int (nI cnt)), (3, .int (nI u))] [] ([(r0, .inr (2, [.ref th, .int (rN (itN (rTx t n) (u + 1) s2) qa1), .int (nI (rF (itN (rTx t n) (u + 1) s2))), .int (rP (itN (rTx t n) (u + 1) s2))])), (th, .inr (3, [.ref hb, .int (nI n)])), (hb, .inl (aB g, 2000, .inl (bf t))), (xa u, .inr (4, [.int (y1 0), .int (y1 1), .int (y1 2), .int (y1 3), .ref (xb u 1), .ref (xb u 2), .ref (xb u 3), .ref (xb u 4), .ref (xb u 5), .ref (xb u 6)])), (xb u 1, .inl (aI g, 8, .inl (f1 1))), (xb u 2, .inl (aI g, 8, .inl (f1 2))), (xb u 3, .inl (aI g, 8, .inl (f1 3))), (xb u 4, .inl (aI g, 8, .inl (f1 4))), (xb u 5, .inl (aI g, 8, .inl (f1 5))), (xb u 6, .inl (aI g, 8, .inl (f1 6))), (ha, .inl (aQ g, 12, .inr (.inr (.inr (.inr (fun j => some (xa j)))))))] ++ txB g xa xb y f u)
          refine j_iinc (pc := 40) (k := 3) (v := nI (u + 1)) (lv' := [(3, .int (nI (u + 1))), (0, .ref r0), (1, .ref ha), (2, .int (nI cnt))]) C d_Rea_takeBlock_40 rfl (j_inc _ _) (by decide) rfl ?_
          refine j_goto (pc := 43) (tgt := 15) C d_Rea_takeBlock_43 rfl ?_
          refine j_lv (lv' := [(0, .ref r0), (1, .ref ha), (2, .int (nI cnt)), (3, .int (nI (u + 1)))]) [1, 2, 3, 0] rfl ?_
          refine j_sub (ws' := [(r0, .inr (2, [.ref th, .int (rN (itN (rTx t n) (u + 1) s2) qa1), .int (nI (rF (itN (rTx t n) (u + 1) s2))), .int (rP (itN (rTx t n) (u + 1) s2))])), (th, .inr (3, [.ref hb, .int (nI n)])), (hb, .inl (aB g, 2000, .inl (bf t))), (ha, .inl (aQ g, 12, .inr (.inr (.inr (.inr (fun j => some (xa j))))))), (xa u, .inr (4, [.int (y1 0), .int (y1 1), .int (y1 2), .int (y1 3), .ref (xb u 1), .ref (xb u 2), .ref (xb u 3), .ref (xb u 4), .ref (xb u 5), .ref (xb u 6)])), (xb u 1, .inl (aI g, 8, .inl (f1 1))), (xb u 2, .inl (aI g, 8, .inl (f1 2))), (xb u 3, .inl (aI g, 8, .inl (f1 3))), (xb u 4, .inl (aI g, 8, .inl (f1 4))), (xb u 5, .inl (aI g, 8, .inl (f1 5))), (xb u 6, .inl (aI g, 8, .inl (f1 6)))] ++ txB g xa xb y f u) (by exact j_Sb.app (a := [(r0, .inr (2, [.ref th, .int (rN (itN (rTx t n) (u + 1) s2) qa1), .int (nI (rF (itN (rTx t n) (u + 1) s2))), .int (rP (itN (rTx t n) (u + 1) s2))])), (th, .inr (3, [.ref hb, .int (nI n)])), (hb, .inl (aB g, 2000, .inl (bf t))), (xa u, .inr (4, [.int (y1 0), .int (y1 1), .int (y1 2), .int (y1 3), .ref (xb u 1), .ref (xb u 2), .ref (xb u 3), .ref (xb u 4), .ref (xb u 5), .ref (xb u 6)])), (xb u 1, .inl (aI g, 8, .inl (f1 1))), (xb u 2, .inl (aI g, 8, .inl (f1 2))), (xb u 3, .inl (aI g, 8, .inl (f1 3))), (xb u 4, .inl (aI g, 8, .inl (f1 4))), (xb u 5, .inl (aI g, 8, .inl (f1 5))), (xb u 6, .inl (aI g, 8, .inl (f1 6))), (ha, .inl (aQ g, 12, .inr (.inr (.inr (.inr (fun j => some (xa j)))))))]) (b := [(r0, .inr (2, [.ref th, .int (rN (itN (rTx t n) (u + 1) s2) qa1), .int (nI (rF (itN (rTx t n) (u + 1) s2))), .int (rP (itN (rTx t n) (u + 1) s2))])), (th, .inr (3, [.ref hb, .int (nI n)])), (hb, .inl (aB g, 2000, .inl (bf t))), (ha, .inl (aQ g, 12, .inr (.inr (.inr (.inr (fun j => some (xa j))))))), (xa u, .inr (4, [.int (y1 0), .int (y1 1), .int (y1 2), .int (y1 3), .ref (xb u 1), .ref (xb u 2), .ref (xb u 3), .ref (xb u 4), .ref (xb u 5), .ref (xb u 6)])), (xb u 1, .inl (aI g, 8, .inl (f1 1))), (xb u 2, .inl (aI g, 8, .inl (f1 2))), (xb u 3, .inl (aI g, 8, .inl (f1 3))), (xb u 4, .inl (aI g, 8, .inl (f1 4))), (xb u 5, .inl (aI g, 8, .inl (f1 5))), (xb u 6, .inl (aI g, 8, .inl (f1 6)))]) (j_sb [0, 1, 2, 10, 3, 4, 5, 6, 7, 8, 9] rfl rfl) (txB g xa xb y f u)) ?_
          refine j_sub (ws' := [(r0, .inr (2, [.ref th, .int (rN (itN (rTx t n) (u + 1) s2) qa1), .int (nI (rF (itN (rTx t n) (u + 1) s2))), .int (rP (itN (rTx t n) (u + 1) s2))])), (th, .inr (3, [.ref hb, .int (nI n)])), (hb, .inl (aB g, 2000, .inl (bf t))), (ha, .inl (aQ g, 12, .inr (.inr (.inr (.inr (fun j => some (xa j)))))))] ++ txs g xa xb (va_up y u y1) (va_up f u f1)) (by exact txs_close (g := g) (xa := xa) (xb := xb) (y := y) (f := f) (u := u) [(r0, .inr (2, [.ref th, .int (rN (itN (rTx t n) (u + 1) s2) qa1), .int (nI (rF (itN (rTx t n) (u + 1) s2))), .int (rP (itN (rTx t n) (u + 1) s2))])), (th, .inr (3, [.ref hb, .int (nI n)])), (hb, .inl (aB g, 2000, .inl (bf t))), (ha, .inl (aQ g, 12, .inr (.inr (.inr (.inr (fun j => some (xa j)))))))] (by omega) y1 f1) ?_
          exact ih (u + 1) _ _ _ (by omega) (by omega) (TxAll_s hH hX1)
set_option maxHeartbeats 4000000 in
set_option maxRecDepth 100000 in
theorem c_Rea_takeBlock (l : Launch) (g : JX) (r0 th hb ha n : Nat) (xa : Nat → Nat) (xb : Nat → Nat → Nat) (t : Nat → Nat) (s : RS) (q : Int32) (y : Nat → Nat → Int32) (f : Nat → Nat → Nat → Int32) (hn : n ≤ 2000) (hT : ∀ j, t j < 256) (hs : ROk n s) : j_Ct l y_Rea_takeBlock b_Rea_takeBlock 4 (some .int) rm_Rea_takeBlock g ([(r0, .inr (2, [.ref th, .int (rN s q), .int (nI (rF s)), .int (rP s)])), (th, .inr (3, [.ref hb, .int (nI n)])), (hb, .inl (aB g, 2000, .inl (bf t))), (ha, .inl (aQ g, 12, .inr (.inr (.inr (.inr (fun j => some (xa j)))))))] ++ txs g xa xb y f) [.ref r0, .ref ha] (fun r w => ∃ (q1 : Int32) (y1 : Nat → Nat → Int32) (f1 : Nat → Nat → Nat → Int32), r = some (.int (nI (bZ t n s).1)) ∧ w = [(r0, .inr (2, [.ref th, .int (rN (itN (rTx t n) (bZ t n s).1 (bZ t n s).2) q1), .int (nI (rF (itN (rTx t n) (bZ t n s).1 (bZ t n s).2))), .int (rP (itN (rTx t n) (bZ t n s).1 (bZ t n s).2))])), (th, .inr (3, [.ref hb, .int (nI n)])), (hb, .inl (aB g, 2000, .inl (bf t))), (ha, .inl (aQ g, 12, .inr (.inr (.inr (.inr (fun j => some (xa j)))))))] ++ txs g xa xb y1 f1 ∧ ∀ p, itN (rTx t n) (bZ t n s).1 (bZ t n s).2 = .inl p → TxAll t n (bZ t n s).2 (bZ t n s).1 y1 f1) 0 0 := by
  refine j_ct (by decide) (Nat.le_of_ble_eq_true rfl) (fun κ hkl C hR hI => ?_)
  show j_V g κ 0 0 0 [(0, .ref r0), (1, .ref ha)] [] ([(r0, .inr (2, [.ref th, .int (rN s q), .int (nI (rF s)), .int (rP s)])), (th, .inr (3, [.ref hb, .int (nI n)])), (hb, .inl (aB g, 2000, .inl (bf t))), (ha, .inl (aQ g, 12, .inr (.inr (.inr (.inr (fun j => some (xa j)))))))] ++ txs g xa xb y f)
  refine j_aload_n (pc := 0) C d_Rea_takeBlock_0 rfl 0 rfl ?_
  refine j_bipush (pc := 1) (v := nI 80) C d_Rea_takeBlock_1 (by decide) ?_
  refine j_callV (pc := 3) (As := [.int (nI 80)]) (rest := []) (wc := [(r0, .inr (2, [.ref th, .int (rN s q), .int (nI (rF s)), .int (rP s)])), (th, .inr (3, [.ref hb, .int (nI n)]))]) (wr := [(hb, .inl (aB g, 2000, .inl (bf t))), (ha, .inl (aQ g, 12, .inr (.inr (.inr (.inr (fun j => some (xa j)))))))] ++ txs g xa xb y f) C (c_Rea_skip (kl κ) g r0 th hb n 80 s q (by omega) (by omega) (hs)) Y_Rea_skip ml_Rea_35 im_Rea_skip sl_Rea_skip rfl ⟨by decide, by decide⟩ rfl (ci := 2) (q0 := 0) rfl rfl rfl (Nat.le_of_ble_eq_true rfl) (by exact j_Sb.app (a := [(r0, .inr (2, [.ref th, .int (rN s q), .int (nI (rF s)), .int (rP s)])), (th, .inr (3, [.ref hb, .int (nI n)])), (hb, .inl (aB g, 2000, .inl (bf t))), (ha, .inl (aQ g, 12, .inr (.inr (.inr (.inr (fun j => some (xa j)))))))]) (b := [(r0, .inr (2, [.ref th, .int (rN s q), .int (nI (rF s)), .int (rP s)])), (th, .inr (3, [.ref hb, .int (nI n)])), (hb, .inl (aB g, 2000, .inl (bf t))), (ha, .inl (aQ g, 12, .inr (.inr (.inr (.inr (fun j => some (xa j)))))))]) (j_sb [0, 1, 2, 3] rfl rfl) (txs g xa xb y f)) rfl d_Rea_takeBlock_3 (fun r w1 hO => ?_)
  obtain ⟨q1, rfl, rfl⟩ := hO
  show j_V g κ 0 0 6 [(0, .ref r0), (1, .ref ha)] [] ([(r0, .inr (2, [.ref th, .int (rN (rPass n 80 s) q1), .int (nI (rF (rPass n 80 s))), .int (rP (rPass n 80 s))])), (th, .inr (3, [.ref hb, .int (nI n)])), (hb, .inl (aB g, 2000, .inl (bf t))), (ha, .inl (aQ g, 12, .inr (.inr (.inr (.inr (fun j => some (xa j)))))))] ++ txs g xa xb y f)
  refine j_aload_n (pc := 6) C d_Rea_takeBlock_6 rfl 0 rfl ?_
  refine j_bipush (pc := 7) (v := nI 12) C d_Rea_takeBlock_7 (by decide) ?_
  refine j_callV (pc := 9) (As := [.int (nI 12)]) (rest := []) (wc := [(r0, .inr (2, [.ref th, .int (rN (rPass n 80 s) q1), .int (nI (rF (rPass n 80 s))), .int (rP (rPass n 80 s))])), (th, .inr (3, [.ref hb, .int (nI n)])), (hb, .inl (aB g, 2000, .inl (bf t)))]) (wr := [(ha, .inl (aQ g, 12, .inr (.inr (.inr (.inr (fun j => some (xa j)))))))] ++ txs g xa xb y f) C (c_Rea_takeSize (kl κ) g r0 th hb n 12 t (rPass n 80 s) q1 (by omega) (by omega) hT (rPass_R (hs))) Y_Rea_takeSize ml_Rea_39 im_Rea_takeSize sl_Rea_takeSize rfl ⟨by decide, by decide⟩ rfl (ci := 2) (q0 := 0) rfl rfl rfl (Nat.le_of_ble_eq_true rfl) (by exact j_Sb.app (a := [(r0, .inr (2, [.ref th, .int (rN (rPass n 80 s) q1), .int (nI (rF (rPass n 80 s))), .int (rP (rPass n 80 s))])), (th, .inr (3, [.ref hb, .int (nI n)])), (hb, .inl (aB g, 2000, .inl (bf t))), (ha, .inl (aQ g, 12, .inr (.inr (.inr (.inr (fun j => some (xa j)))))))]) (b := [(r0, .inr (2, [.ref th, .int (rN (rPass n 80 s) q1), .int (nI (rF (rPass n 80 s))), .int (rP (rPass n 80 s))])), (th, .inr (3, [.ref hb, .int (nI n)])), (hb, .inl (aB g, 2000, .inl (bf t))), (ha, .inl (aQ g, 12, .inr (.inr (.inr (.inr (fun j => some (xa j)))))))]) (j_sb [0, 1, 2, 3] rfl rfl) (txs g xa xb y f)) rfl d_Rea_takeBlock_9 (fun r w1 hO => ?_)
  obtain ⟨q2, rfl, rfl⟩ := hO
  show j_V g κ 0 0 12 [(0, .ref r0), (1, .ref ha)] [.int (nI ((bZ t n s).1))] ([(r0, .inr (2, [.ref th, .int (rN ((bZ t n s).2) q2), .int (nI (rF ((bZ t n s).2))), .int (rP ((bZ t n s).2))])), (th, .inr (3, [.ref hb, .int (nI n)])), (hb, .inl (aB g, 2000, .inl (bf t))), (ha, .inl (aQ g, 12, .inr (.inr (.inr (.inr (fun j => some (xa j)))))))] ++ txs g xa xb y f)
  have hz9 : (bZ t n s).1 ≤ 12 := rSize_le
  refine j_istore_n (pc := 12) (lv' := [(2, .int (nI ((bZ t n s).1))), (0, .ref r0), (1, .ref ha)]) C d_Rea_takeBlock_12 rfl (by decide) rfl ?_
  refine j_iconst (pc := 13) (v := nI 0) C d_Rea_takeBlock_13 (by decide) ?_
  refine j_istore_n (pc := 14) (lv' := [(3, .int (nI 0)), (2, .int (nI ((bZ t n s).1))), (0, .ref r0), (1, .ref ha)]) C d_Rea_takeBlock_14 rfl (by decide) rfl ?_
  refine j_lv (lv' := [(0, .ref r0), (1, .ref ha), (2, .int (nI ((bZ t n s).1))), (3, .int (nI 0))]) [2, 3, 1, 0] rfl ?_
  exact lp_tb (r0 := r0) (th := th) (hb := hb) (ha := ha) (xa := xa) (xb := xb) (t := t) (s2 := (bZ t n s).2) (cnt := (bZ t n s).1) hn hT (bZ_R hs) hz9 C hR 13 0 _ y f (by omega) (by omega) (fun v hv => absurd hv (by omega))
