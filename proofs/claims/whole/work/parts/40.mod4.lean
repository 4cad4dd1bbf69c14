abbrev rm_Mod_look : Room := { frames := 1, cells := 0, slots := 0, locals := 25 }
set_option maxHeartbeats 4000000 in
set_option maxRecDepth 100000 in
theorem c_Mod_look (l : Launch) (g : JX) (o : Nat) (a : Nat → Nat) (n cnt : Nat) (t : Nat → Nat) (s2 : RS) (F : Nat → Nat → Int32) (sz ib pl db q wr z : Int32) (tt x : Int32) (hn : n ≤ 2000) (hT : ∀ j, t j < 256) (hc : cnt ≤ 12) (hA : MAll t n s2 cnt F) (hE : 0 < cnt → ∃ e0, itN (rTx t n) cnt s2 = .inl e0) : j_Ct l y_Mod_look b_Mod_look 3 (some .long) rm_Mod_look g ([(o, .inr (6, mo a sz (nI n) ib (nI cnt) pl q wr z db)), (a 1, .inl (aI g, 2000, .inl (nf t))), (a 2, .inl (aI g, 12, .inl (F 2))), (a 3, .inl (aI g, 12, .inl (F 3))), (a 4, .inl (aI g, 12, .inl (F 4))), (a 5, .inl (aI g, 12, .inl (F 5)))]) [.ref o, .int tt, .int x] (fun r w => r = some (.long (lookR t n s2 cnt tt x)) ∧ w = [(o, .inr (6, mo a sz (nI n) ib (nI cnt) pl q wr z db)), (a 1, .inl (aI g, 2000, .inl (nf t))), (a 2, .inl (aI g, 12, .inl (F 2))), (a 3, .inl (aI g, 12, .inl (F 3))), (a 4, .inl (aI g, 12, .inl (F 4))), (a 5, .inl (aI g, 12, .inl (F 5)))]) 0 0 := by
  refine j_ct (by decide) (Nat.le_of_ble_eq_true rfl) (fun κ hkl C hR hI => ?_)
  show j_V g κ 0 0 0 [(0, .ref o), (1, .int tt), (2, .int x)] [] ([(o, .inr (6, mo a sz (nI n) ib (nI cnt) pl q wr z db)), (a 1, .inl (aI g, 2000, .inl (nf t))), (a 2, .inl (aI g, 12, .inl (F 2))), (a 3, .inl (aI g, 12, .inl (F 3))), (a 4, .inl (aI g, 12, .inl (F 4))), (a 5, .inl (aI g, 12, .inl (F 5)))])
  rcases pk_ix tt (n := cnt) (by omega) with hu | hu | ⟨u, hu, rfl⟩
  · skip
    show j_V g κ 0 0 0 [(0, .ref o), (1, .int tt), (2, .int x)] [] ([(o, .inr (6, mo a sz (nI n) ib (nI cnt) pl q wr z db)), (a 1, .inl (aI g, 2000, .inl (nf t))), (a 2, .inl (aI g, 12, .inl (F 2))), (a 3, .inl (aI g, 12, .inl (F 3))), (a 4, .inl (aI g, 12, .inl (F 4))), (a 5, .inl (aI g, 12, .inl (F 5)))])
    refine j_aload_n (pc := 0) C d_Mod_look_0 rfl 0 rfl ?_
    refine j_iload_n (pc := 1) C d_Mod_look_1 rfl 1 rfl ?_
    refine j_callV (pc := 2) (As := [.int tt]) (rest := []) (wc := [(o, .inr (6, mo a sz (nI n) ib (nI cnt) pl q wr z db))]) (wr := [(a 1, .inl (aI g, 2000, .inl (nf t))), (a 2, .inl (aI g, 12, .inl (F 2))), (a 3, .inl (aI g, 12, .inl (F 3))), (a 4, .inl (aI g, 12, .inl (F 4))), (a 5, .inl (aI g, 12, .inl (F 5)))]) C (c_Mod_isTransaction (kl κ) g o a n cnt tt sz ib pl db q wr z (by omega)) Y_Mod_isTransaction ml_Mod_187 im_Mod_isTransaction sl_Mod_isTransaction rfl ⟨by decide, by decide⟩ rfl (ci := 6) (q0 := 0) rfl rfl rfl (Nat.le_of_ble_eq_true rfl) (j_sb [0, 1, 2, 3, 4, 5] rfl rfl) rfl d_Mod_look_2 (fun r w1 hO => ?_)
    obtain ⟨rfl, rfl⟩ := hO
    show j_V g κ 0 0 5 [(0, .ref o), (1, .int tt), (2, .int x)] [.int (if 0 ≤ tt ∧ tt < nI cnt then (1 : Int32) else 0)] ([(o, .inr (6, mo a sz (nI n) ib (nI cnt) pl q wr z db)), (a 1, .inl (aI g, 2000, .inl (nf t))), (a 2, .inl (aI g, 12, .inl (F 2))), (a 3, .inl (aI g, 12, .inl (F 3))), (a 4, .inl (aI g, 12, .inl (F 4))), (a 5, .inl (aI g, 12, .inl (F 5)))])
    refine j_if_neB (pc := 5) (tgt := 12) C d_Mod_look_5 rfl (fun c5 => ?_) (fun c5 => ?_)
    · skip
      first | exact absurd c5.1 (nlt0 hu) | exact absurd c5.2 (nle hu)
    · skip
      refine j_ldc2 (pc := 8) C k_Mod_185 d_Mod_look_8 ?_
      exact hR.2.1 _ _ _ _ d_Mod_look_11 rfl (⟨by first | rw [lookR_neg hu] | rw [lookR_big hu] | (rw [lookR_in hu (by omega)]; unfold lookV; first | rw [sel_neg hq9] | rw [sel_big hq9] | (rw [he, hb]; rfl)), rfl⟩)
  · skip
    show j_V g κ 0 0 0 [(0, .ref o), (1, .int tt), (2, .int x)] [] ([(o, .inr (6, mo a sz (nI n) ib (nI cnt) pl q wr z db)), (a 1, .inl (aI g, 2000, .inl (nf t))), (a 2, .inl (aI g, 12, .inl (F 2))), (a 3, .inl (aI g, 12, .inl (F 3))), (a 4, .inl (aI g, 12, .inl (F 4))), (a 5, .inl (aI g, 12, .inl (F 5)))])
    refine j_aload_n (pc := 0) C d_Mod_look_0 rfl 0 rfl ?_
    refine j_iload_n (pc := 1) C d_Mod_look_1 rfl 1 rfl ?_
    refine j_callV (pc := 2) (As := [.int tt]) (rest := []) (wc := [(o, .inr (6, mo a sz (nI n) ib (nI cnt) pl q wr z db))]) (wr := [(a 1, .inl (aI g, 2000, .inl (nf t))), (a 2, .inl (aI g, 12, .inl (F 2))), (a 3, .inl (aI g, 12, .inl (F 3))), (a 4, .inl (aI g, 12, .inl (F 4))), (a 5, .inl (aI g, 12, .inl (F 5)))]) C (c_Mod_isTransaction (kl κ) g o a n cnt tt sz ib pl db q wr z (by omega)) Y_Mod_isTransaction ml_Mod_187 im_Mod_isTransaction sl_Mod_isTransaction rfl ⟨by decide, by decide⟩ rfl (ci := 6) (q0 := 0) rfl rfl rfl (Nat.le_of_ble_eq_true rfl) (j_sb [0, 1, 2, 3, 4, 5] rfl rfl) rfl d_Mod_look_2 (fun r w1 hO => ?_)
    obtain ⟨rfl, rfl⟩ := hO
    show j_V g κ 0 0 5 [(0, .ref o), (1, .int tt), (2, .int x)] [.int (if 0 ≤ tt ∧ tt < nI cnt then (1 : Int32) else 0)] ([(o, .inr (6, mo a sz (nI n) ib (nI cnt) pl q wr z db)), (a 1, .inl (aI g, 2000, .inl (nf t))), (a 2, .inl (aI g, 12, .inl (F 2))), (a 3, .inl (aI g, 12, .inl (F 3))), (a 4, .inl (aI g, 12, .inl (F 4))), (a 5, .inl (aI g, 12, .inl (F 5)))])
    refine j_if_neB (pc := 5) (tgt := 12) C d_Mod_look_5 rfl (fun c5 => ?_) (fun c5 => ?_)
    · skip
      first | exact absurd c5.1 (nlt0 hu) | exact absurd c5.2 (nle hu)
    · skip
      refine j_ldc2 (pc := 8) C k_Mod_185 d_Mod_look_8 ?_
      exact hR.2.1 _ _ _ _ d_Mod_look_11 rfl (⟨by first | rw [lookR_neg hu] | rw [lookR_big hu] | (rw [lookR_in hu (by omega)]; unfold lookV; first | rw [sel_neg hq9] | rw [sel_big hq9] | (rw [he, hb]; rfl)), rfl⟩)
  · skip
    obtain ⟨e0, hE0⟩ := hE (by omega)
    obtain ⟨b, e, hb, he, hbe, hen, he4⟩ := tx_st hE0 hu
    obtain ⟨h0, h1, h2, h3, hHi, hHo⟩ := hA u hu e he
    have hz8 : (xZ t n (itN (rTx t n) u s2)).1 ≤ 8 := rSize_le
    have hy8 : (xY t n (itN (rTx t n) u s2)).1 ≤ 8 := rSize_le
    rcases pk_ix x (n := 6) (by decide) with hq9 | hq9 | ⟨q9, hq9, rfl⟩
    · skip
      show j_V g κ 0 0 0 [(0, .ref o), (1, .int (nI u)), (2, .int x)] [] ([(o, .inr (6, mo a sz (nI n) ib (nI cnt) pl q wr z db)), (a 1, .inl (aI g, 2000, .inl (nf t))), (a 2, .inl (aI g, 12, .inl (F 2))), (a 3, .inl (aI g, 12, .inl (F 3))), (a 4, .inl (aI g, 12, .inl (F 4))), (a 5, .inl (aI g, 12, .inl (F 5)))])
      refine j_aload_n (pc := 0) C d_Mod_look_0 rfl 0 rfl ?_
      refine j_iload_n (pc := 1) C d_Mod_look_1 rfl 1 rfl ?_
      refine j_callV (pc := 2) (As := [.int (nI u)]) (rest := []) (wc := [(o, .inr (6, mo a sz (nI n) ib (nI cnt) pl q wr z db))]) (wr := [(a 1, .inl (aI g, 2000, .inl (nf t))), (a 2, .inl (aI g, 12, .inl (F 2))), (a 3, .inl (aI g, 12, .inl (F 3))), (a 4, .inl (aI g, 12, .inl (F 4))), (a 5, .inl (aI g, 12, .inl (F 5)))]) C (c_Mod_isTransaction (kl κ) g o a n cnt (nI u) sz ib pl db q wr z (by omega)) Y_Mod_isTransaction ml_Mod_187 im_Mod_isTransaction sl_Mod_isTransaction rfl ⟨by decide, by decide⟩ rfl (ci := 6) (q0 := 0) rfl rfl rfl (Nat.le_of_ble_eq_true rfl) (j_sb [0, 1, 2, 3, 4, 5] rfl rfl) rfl d_Mod_look_2 (fun r w1 hO => ?_)
      obtain ⟨rfl, rfl⟩ := hO
      show j_V g κ 0 0 5 [(0, .ref o), (1, .int (nI u)), (2, .int x)] [.int (if 0 ≤ nI u ∧ nI u < nI cnt then (1 : Int32) else 0)] ([(o, .inr (6, mo a sz (nI n) ib (nI cnt) pl q wr z db)), (a 1, .inl (aI g, 2000, .inl (nf t))), (a 2, .inl (aI g, 12, .inl (F 2))), (a 3, .inl (aI g, 12, .inl (F 3))), (a 4, .inl (aI g, 12, .inl (F 4))), (a 5, .inl (aI g, 12, .inl (F 5)))])
      refine j_if_neB (pc := 5) (tgt := 12) C d_Mod_look_5 rfl (fun c5 => ?_) (fun c5 => ?_)
      · skip
        refine j_iload_n (pc := 12) C d_Mod_look_12 rfl 2 rfl ?_
        refine j_tableOut (pc := 13) (tgt := 117) C d_Mod_look_13 (Or.inl (ts_neg hq9)) (by decide) ?_
        refine j_ldc2 (pc := 117) C k_Mod_185 d_Mod_look_117 ?_
        exact hR.2.1 _ _ _ _ d_Mod_look_120 rfl (⟨by first | rw [lookR_neg hu] | rw [lookR_big hu] | (rw [lookR_in hu (by omega)]; unfold lookV; first | rw [sel_neg hq9] | rw [sel_big hq9] | (rw [he, hb]; rfl)), rfl⟩)
      · skip
        exact absurd ⟨nI_pos' (by omega), nI_lt hu (by omega)⟩ c5
    · skip
      show j_V g κ 0 0 0 [(0, .ref o), (1, .int (nI u)), (2, .int x)] [] ([(o, .inr (6, mo a sz (nI n) ib (nI cnt) pl q wr z db)), (a 1, .inl (aI g, 2000, .inl (nf t))), (a 2, .inl (aI g, 12, .inl (F 2))), (a 3, .inl (aI g, 12, .inl (F 3))), (a 4, .inl (aI g, 12, .inl (F 4))), (a 5, .inl (aI g, 12, .inl (F 5)))])
      refine j_aload_n (pc := 0) C d_Mod_look_0 rfl 0 rfl ?_
      refine j_iload_n (pc := 1) C d_Mod_look_1 rfl 1 rfl ?_
      refine j_callV (pc := 2) (As := [.int (nI u)]) (rest := []) (wc := [(o, .inr (6, mo a sz (nI n) ib (nI cnt) pl q wr z db))]) (wr := [(a 1, .inl (aI g, 2000, .inl (nf t))), (a 2, .inl (aI g, 12, .inl (F 2))), (a 3, .inl (aI g, 12, .inl (F 3))), (a 4, .inl (aI g, 12, .inl (F 4))), (a 5, .inl (aI g, 12, .inl (F 5)))]) C (c_Mod_isTransaction (kl κ) g o a n cnt (nI u) sz ib pl db q wr z (by omega)) Y_Mod_isTransaction ml_Mod_187 im_Mod_isTransaction sl_Mod_isTransaction rfl ⟨by decide, by decide⟩ rfl (ci := 6) (q0 := 0) rfl rfl rfl (Nat.le_of_ble_eq_true rfl) (j_sb [0, 1, 2, 3, 4, 5] rfl rfl) rfl d_Mod_look_2 (fun r w1 hO => ?_)
      obtain ⟨rfl, rfl⟩ := hO
      show j_V g κ 0 0 5 [(0, .ref o), (1, .int (nI u)), (2, .int x)] [.int (if 0 ≤ nI u ∧ nI u < nI cnt then (1 : Int32) else 0)] ([(o, .inr (6, mo a sz (nI n) ib (nI cnt) pl q wr z db)), (a 1, .inl (aI g, 2000, .inl (nf t))), (a 2, .inl (aI g, 12, .inl (F 2))), (a 3, .inl (aI g, 12, .inl (F 3))), (a 4, .inl (aI g, 12, .inl (F 4))), (a 5, .inl (aI g, 12, .inl (F 5)))])
      refine j_if_neB (pc := 5) (tgt := 12) C d_Mod_look_5 rfl (fun c5 => ?_) (fun c5 => ?_)
      · skip
        refine j_iload_n (pc := 12) C d_Mod_look_12 rfl 2 rfl ?_
        refine j_tableOut (pc := 13) (tgt := 117) C d_Mod_look_13 (Or.inr (ts_big (k := 5) (by decide) hq9)) (by decide) ?_
        refine j_ldc2 (pc := 117) C k_Mod_185 d_Mod_look_117 ?_
        exact hR.2.1 _ _ _ _ d_Mod_look_120 rfl (⟨by first | rw [lookR_neg hu] | rw [lookR_big hu] | (rw [lookR_in hu (by omega)]; unfold lookV; first | rw [sel_neg hq9] | rw [sel_big hq9] | (rw [he, hb]; rfl)), rfl⟩)
      · skip
        exact absurd ⟨nI_pos' (by omega), nI_lt hu (by omega)⟩ c5
    · skip
      rcases (by omega : q9 = 0 ∨ q9 = 1 ∨ q9 = 2 ∨ q9 = 3 ∨ q9 = 4 ∨ q9 = 5) with rfl | rfl | rfl | rfl | rfl | rfl
      · skip
        show j_V g κ 0 0 0 [(0, .ref o), (1, .int (nI u)), (2, .int (nI 0))] [] ([(o, .inr (6, mo a sz (nI n) ib (nI cnt) pl q wr z db)), (a 1, .inl (aI g, 2000, .inl (nf t))), (a 2, .inl (aI g, 12, .inl (F 2))), (a 3, .inl (aI g, 12, .inl (F 3))), (a 4, .inl (aI g, 12, .inl (F 4))), (a 5, .inl (aI g, 12, .inl (F 5)))])
        refine j_aload_n (pc := 0) C d_Mod_look_0 rfl 0 rfl ?_
        refine j_iload_n (pc := 1) C d_Mod_look_1 rfl 1 rfl ?_
        refine j_callV (pc := 2) (As := [.int (nI u)]) (rest := []) (wc := [(o, .inr (6, mo a sz (nI n) ib (nI cnt) pl q wr z db))]) (wr := [(a 1, .inl (aI g, 2000, .inl (nf t))), (a 2, .inl (aI g, 12, .inl (F 2))), (a 3, .inl (aI g, 12, .inl (F 3))), (a 4, .inl (aI g, 12, .inl (F 4))), (a 5, .inl (aI g, 12, .inl (F 5)))]) C (c_Mod_isTransaction (kl κ) g o a n cnt (nI u) sz ib pl db q wr z (by omega)) Y_Mod_isTransaction ml_Mod_187 im_Mod_isTransaction sl_Mod_isTransaction rfl ⟨by decide, by decide⟩ rfl (ci := 6) (q0 := 0) rfl rfl rfl (Nat.le_of_ble_eq_true rfl) (j_sb [0, 1, 2, 3, 4, 5] rfl rfl) rfl d_Mod_look_2 (fun r w1 hO => ?_)
        obtain ⟨rfl, rfl⟩ := hO
        show j_V g κ 0 0 5 [(0, .ref o), (1, .int (nI u)), (2, .int (nI 0))] [.int (if 0 ≤ nI u ∧ nI u < nI cnt then (1 : Int32) else 0)] ([(o, .inr (6, mo a sz (nI n) ib (nI cnt) pl q wr z db)), (a 1, .inl (aI g, 2000, .inl (nf t))), (a 2, .inl (aI g, 12, .inl (F 2))), (a 3, .inl (aI g, 12, .inl (F 3))), (a 4, .inl (aI g, 12, .inl (F 4))), (a 5, .inl (aI g, 12, .inl (F 5)))])
        refine j_if_neB (pc := 5) (tgt := 12) C d_Mod_look_5 rfl (fun c5 => ?_) (fun c5 => ?_)
        · skip
          refine j_iload_n (pc := 12) C d_Mod_look_12 rfl 2 rfl ?_
          refine j_tableIn (pc := 13) (tgt := 52) C d_Mod_look_13 (by decide) (by decide) rfl (by decide) ?_
          refine j_aload_n (pc := 52) C d_Mod_look_52 rfl 0 rfl ?_
          refine j_aload_n (pc := 53) C d_Mod_look_53 rfl 0 rfl ?_
          refine j_get (pc := 54) C F_Mod_20 0 rfl rfl d_Mod_look_54 ?_
          refine j_iload_n (pc := 57) C d_Mod_look_57 rfl 1 rfl ?_
          refine j_ialdN (pc := 58) C 2 1 rfl rfl (by omega) (by omega) d_Mod_look_58 ?_
          refine j_rwi (y := nI b) (by rw [h0, hb]; rfl) ?_
          refine j_iconst (pc := 59) (v := nI 4) C d_Mod_look_59 (by decide) ?_
          refine j_callV (pc := 60) (As := [.int (nI b), .int (nI 4)]) (rest := []) (wc := [(o, .inr (6, mo a sz (nI n) ib (nI cnt) pl q wr z db)), (a 1, .inl (aI g, 2000, .inl (nf t)))]) (wr := [(a 2, .inl (aI g, 12, .inl (F 2))), (a 3, .inl (aI g, 12, .inl (F 3))), (a 4, .inl (aI g, 12, .inl (F 4))), (a 5, .inl (aI g, 12, .inl (F 5)))]) C (c_Mod_lowAt (kl κ) g o a n b 4 t sz ib (nI cnt) pl db q wr z hT (by omega) (by omega)) Y_Mod_lowAt ml_Mod_156 im_Mod_lowAt sl_Mod_lowAt rfl ⟨by decide, by decide⟩ rfl (ci := 6) (q0 := 0) rfl rfl rfl (Nat.le_of_ble_eq_true rfl) (j_sb [0, 1, 2, 3, 4, 5] rfl rfl) rfl d_Mod_look_60 (fun r w1 hO => ?_)
          obtain ⟨rfl, rfl⟩ := hO
          show j_V g κ 0 0 63 [(0, .ref o), (1, .int (nI u)), (2, .int (nI 0))] [.long (lN (lf t b 4))] ([(o, .inr (6, mo a sz (nI n) ib (nI cnt) pl q wr z db)), (a 1, .inl (aI g, 2000, .inl (nf t))), (a 2, .inl (aI g, 12, .inl (F 2))), (a 3, .inl (aI g, 12, .inl (F 3))), (a 4, .inl (aI g, 12, .inl (F 4))), (a 5, .inl (aI g, 12, .inl (F 5)))])
          exact hR.2.1 _ _ _ _ d_Mod_look_63 rfl (⟨by first | rw [lookR_neg hu] | rw [lookR_big hu] | (rw [lookR_in hu (by omega)]; unfold lookV; first | rw [sel_neg hq9] | rw [sel_big hq9] | (rw [he, hb]; rfl)), rfl⟩)
        · skip
          exact absurd ⟨nI_pos' (by omega), nI_lt hu (by omega)⟩ c5
      · skip
        show j_V g κ 0 0 0 [(0, .ref o), (1, .int (nI u)), (2, .int (nI 1))] [] ([(o, .inr (6, mo a sz (nI n) ib (nI cnt) pl q wr z db)), (a 1, .inl (aI g, 2000, .inl (nf t))), (a 2, .inl (aI g, 12, .inl (F 2))), (a 3, .inl (aI g, 12, .inl (F 3))), (a 4, .inl (aI g, 12, .inl (F 4))), (a 5, .inl (aI g, 12, .inl (F 5)))])
        refine j_aload_n (pc := 0) C d_Mod_look_0 rfl 0 rfl ?_
        refine j_iload_n (pc := 1) C d_Mod_look_1 rfl 1 rfl ?_
        refine j_callV (pc := 2) (As := [.int (nI u)]) (rest := []) (wc := [(o, .inr (6, mo a sz (nI n) ib (nI cnt) pl q wr z db))]) (wr := [(a 1, .inl (aI g, 2000, .inl (nf t))), (a 2, .inl (aI g, 12, .inl (F 2))), (a 3, .inl (aI g, 12, .inl (F 3))), (a 4, .inl (aI g, 12, .inl (F 4))), (a 5, .inl (aI g, 12, .inl (F 5)))]) C (c_Mod_isTransaction (kl κ) g o a n cnt (nI u) sz ib pl db q wr z (by omega)) Y_Mod_isTransaction ml_Mod_187 im_Mod_isTransaction sl_Mod_isTransaction rfl ⟨by decide, by decide⟩ rfl (ci := 6) (q0 := 0) rfl rfl rfl (Nat.le_of_ble_eq_true rfl) (j_sb [0, 1, 2, 3, 4, 5] rfl rfl) rfl d_Mod_look_2 (fun r w1 hO => ?_)
        obtain ⟨rfl, rfl⟩ := hO
        show j_V g κ 0 0 5 [(0, .ref o), (1, .int (nI u)), (2, .int (nI 1))] [.int (if 0 ≤ nI u ∧ nI u < nI cnt then (1 : Int32) else 0)] ([(o, .inr (6, mo a sz (nI n) ib (nI cnt) pl q wr z db)), (a 1, .inl (aI g, 2000, .inl (nf t))), (a 2, .inl (aI g, 12, .inl (F 2))), (a 3, .inl (aI g, 12, .inl (F 3))), (a 4, .inl (aI g, 12, .inl (F 4))), (a 5, .inl (aI g, 12, .inl (F 5)))])
        refine j_if_neB (pc := 5) (tgt := 12) C d_Mod_look_5 rfl (fun c5 => ?_) (fun c5 => ?_)
        · skip
          refine j_iload_n (pc := 12) C d_Mod_look_12 rfl 2 rfl ?_
          refine j_tableIn (pc := 13) (tgt := 64) C d_Mod_look_13 (by decide) (by decide) rfl (by decide) ?_
          refine j_aload_n (pc := 64) C d_Mod_look_64 rfl 0 rfl ?_
          refine j_get (pc := 65) C F_Mod_26 0 rfl rfl d_Mod_look_65 ?_
          refine j_iload_n (pc := 68) C d_Mod_look_68 rfl 1 rfl ?_
          refine j_ialdN (pc := 69) C 4 1 rfl rfl (by omega) (by omega) d_Mod_look_69 ?_
          refine j_rwi (y := nI ((xZ t n (itN (rTx t n) u s2)).1)) (h2) ?_
          refine j_i2l (pc := 70) (v := lN ((xZ t n (itN (rTx t n) u s2)).1)) C d_Mod_look_70 (nI_l (by omega)) ?_
          exact hR.2.1 _ _ _ _ d_Mod_look_71 rfl (⟨by first | rw [lookR_neg hu] | rw [lookR_big hu] | (rw [lookR_in hu (by omega)]; unfold lookV; first | rw [sel_neg hq9] | rw [sel_big hq9] | (rw [he, hb]; rfl)), rfl⟩)
        · skip
          exact absurd ⟨nI_pos' (by omega), nI_lt hu (by omega)⟩ c5
      · skip
        show j_V g κ 0 0 0 [(0, .ref o), (1, .int (nI u)), (2, .int (nI 2))] [] ([(o, .inr (6, mo a sz (nI n) ib (nI cnt) pl q wr z db)), (a 1, .inl (aI g, 2000, .inl (nf t))), (a 2, .inl (aI g, 12, .inl (F 2))), (a 3, .inl (aI g, 12, .inl (F 3))), (a 4, .inl (aI g, 12, .inl (F 4))), (a 5, .inl (aI g, 12, .inl (F 5)))])
        refine j_aload_n (pc := 0) C d_Mod_look_0 rfl 0 rfl ?_
        refine j_iload_n (pc := 1) C d_Mod_look_1 rfl 1 rfl ?_
        refine j_callV (pc := 2) (As := [.int (nI u)]) (rest := []) (wc := [(o, .inr (6, mo a sz (nI n) ib (nI cnt) pl q wr z db))]) (wr := [(a 1, .inl (aI g, 2000, .inl (nf t))), (a 2, .inl (aI g, 12, .inl (F 2))), (a 3, .inl (aI g, 12, .inl (F 3))), (a 4, .inl (aI g, 12, .inl (F 4))), (a 5, .inl (aI g, 12, .inl (F 5)))]) C (c_Mod_isTransaction (kl κ) g o a n cnt (nI u) sz ib pl db q wr z (by omega)) Y_Mod_isTransaction ml_Mod_187 im_Mod_isTransaction sl_Mod_isTransaction rfl ⟨by decide, by decide⟩ rfl (ci := 6) (q0 := 0) rfl rfl rfl (Nat.le_of_ble_eq_true rfl) (j_sb [0, 1, 2, 3, 4, 5] rfl rfl) rfl d_Mod_look_2 (fun r w1 hO => ?_)
        obtain ⟨rfl, rfl⟩ := hO
        show j_V g κ 0 0 5 [(0, .ref o), (1, .int (nI u)), (2, .int (nI 2))] [.int (if 0 ≤ nI u ∧ nI u < nI cnt then (1 : Int32) else 0)] ([(o, .inr (6, mo a sz (nI n) ib (nI cnt) pl q wr z db)), (a 1, .inl (aI g, 2000, .inl (nf t))), (a 2, .inl (aI g, 12, .inl (F 2))), (a 3, .inl (aI g, 12, .inl (F 3))), (a 4, .inl (aI g, 12, .inl (F 4))), (a 5, .inl (aI g, 12, .inl (F 5)))])
        refine j_if_neB (pc := 5) (tgt := 12) C d_Mod_look_5 rfl (fun c5 => ?_) (fun c5 => ?_)
        · skip
          refine j_iload_n (pc := 12) C d_Mod_look_12 rfl 2 rfl ?_
          refine j_tableIn (pc := 13) (tgt := 72) C d_Mod_look_13 (by decide) (by decide) rfl (by decide) ?_
          refine j_aload_n (pc := 72) C d_Mod_look_72 rfl 0 rfl ?_
          refine j_get (pc := 73) C F_Mod_29 0 rfl rfl d_Mod_look_73 ?_
          refine j_iload_n (pc := 76) C d_Mod_look_76 rfl 1 rfl ?_
          refine j_ialdN (pc := 77) C 5 1 rfl rfl (by omega) (by omega) d_Mod_look_77 ?_
          refine j_rwi (y := nI ((xY t n (itN (rTx t n) u s2)).1)) (h3) ?_
          refine j_i2l (pc := 78) (v := lN ((xY t n (itN (rTx t n) u s2)).1)) C d_Mod_look_78 (nI_l (by omega)) ?_
          exact hR.2.1 _ _ _ _ d_Mod_look_79 rfl (⟨by first | rw [lookR_neg hu] | rw [lookR_big hu] | (rw [lookR_in hu (by omega)]; unfold lookV; first | rw [sel_neg hq9] | rw [sel_big hq9] | (rw [he, hb]; rfl)), rfl⟩)
        · skip
          exact absurd ⟨nI_pos' (by omega), nI_lt hu (by omega)⟩ c5
      · skip
        show j_V g κ 0 0 0 [(0, .ref o), (1, .int (nI u)), (2, .int (nI 3))] [] ([(o, .inr (6, mo a sz (nI n) ib (nI cnt) pl q wr z db)), (a 1, .inl (aI g, 2000, .inl (nf t))), (a 2, .inl (aI g, 12, .inl (F 2))), (a 3, .inl (aI g, 12, .inl (F 3))), (a 4, .inl (aI g, 12, .inl (F 4))), (a 5, .inl (aI g, 12, .inl (F 5)))])
        refine j_aload_n (pc := 0) C d_Mod_look_0 rfl 0 rfl ?_
        refine j_iload_n (pc := 1) C d_Mod_look_1 rfl 1 rfl ?_
        refine j_callV (pc := 2) (As := [.int (nI u)]) (rest := []) (wc := [(o, .inr (6, mo a sz (nI n) ib (nI cnt) pl q wr z db))]) (wr := [(a 1, .inl (aI g, 2000, .inl (nf t))), (a 2, .inl (aI g, 12, .inl (F 2))), (a 3, .inl (aI g, 12, .inl (F 3))), (a 4, .inl (aI g, 12, .inl (F 4))), (a 5, .inl (aI g, 12, .inl (F 5)))]) C (c_Mod_isTransaction (kl κ) g o a n cnt (nI u) sz ib pl db q wr z (by omega)) Y_Mod_isTransaction ml_Mod_187 im_Mod_isTransaction sl_Mod_isTransaction rfl ⟨by decide, by decide⟩ rfl (ci := 6) (q0 := 0) rfl rfl rfl (Nat.le_of_ble_eq_true rfl) (j_sb [0, 1, 2, 3, 4, 5] rfl rfl) rfl d_Mod_look_2 (fun r w1 hO => ?_)
        obtain ⟨rfl, rfl⟩ := hO
        show j_V g κ 0 0 5 [(0, .ref o), (1, .int (nI u)), (2, .int (nI 3))] [.int (if 0 ≤ nI u ∧ nI u < nI cnt then (1 : Int32) else 0)] ([(o, .inr (6, mo a sz (nI n) ib (nI cnt) pl q wr z db)), (a 1, .inl (aI g, 2000, .inl (nf t))), (a 2, .inl (aI g, 12, .inl (F 2))), (a 3, .inl (aI g, 12, .inl (F 3))), (a 4, .inl (aI g, 12, .inl (F 4))), (a 5, .inl (aI g, 12, .inl (F 5)))])
        refine j_if_neB (pc := 5) (tgt := 12) C d_Mod_look_5 rfl (fun c5 => ?_) (fun c5 => ?_)
        · skip
          refine j_iload_n (pc := 12) C d_Mod_look_12 rfl 2 rfl ?_
          refine j_tableIn (pc := 13) (tgt := 80) C d_Mod_look_13 (by decide) (by decide) rfl (by decide) ?_
          refine j_aload_n (pc := 80) C d_Mod_look_80 rfl 0 rfl ?_
          refine j_aload_n (pc := 81) C d_Mod_look_81 rfl 0 rfl ?_
          refine j_get (pc := 82) C F_Mod_23 0 rfl rfl d_Mod_look_82 ?_
          refine j_iload_n (pc := 85) C d_Mod_look_85 rfl 1 rfl ?_
          refine j_ialdN (pc := 86) C 3 1 rfl rfl (by omega) (by omega) d_Mod_look_86 ?_
          refine j_rwi (y := nI e) (h1) ?_
          refine j_iconst (pc := 87) (v := nI 4) C d_Mod_look_87 (by decide) ?_
          refine j_isubN (pc := 88) C (by omega) d_Mod_look_88 ?_
          refine j_iconst (pc := 89) (v := nI 4) C d_Mod_look_89 (by decide) ?_
          refine j_callV (pc := 90) (As := [.int (nI (e - 4)), .int (nI 4)]) (rest := []) (wc := [(o, .inr (6, mo a sz (nI n) ib (nI cnt) pl q wr z db)), (a 1, .inl (aI g, 2000, .inl (nf t)))]) (wr := [(a 2, .inl (aI g, 12, .inl (F 2))), (a 3, .inl (aI g, 12, .inl (F 3))), (a 4, .inl (aI g, 12, .inl (F 4))), (a 5, .inl (aI g, 12, .inl (F 5)))]) C (c_Mod_lowAt (kl κ) g o a n (e - 4) 4 t sz ib (nI cnt) pl db q wr z hT (by omega) (by omega)) Y_Mod_lowAt ml_Mod_156 im_Mod_lowAt sl_Mod_lowAt rfl ⟨by decide, by decide⟩ rfl (ci := 6) (q0 := 0) rfl rfl rfl (Nat.le_of_ble_eq_true rfl) (j_sb [0, 1, 2, 3, 4, 5] rfl rfl) rfl d_Mod_look_90 (fun r w1 hO => ?_)
          obtain ⟨rfl, rfl⟩ := hO
          show j_V g κ 0 0 93 [(0, .ref o), (1, .int (nI u)), (2, .int (nI 3))] [.long (lN (lf t (e - 4) 4))] ([(o, .inr (6, mo a sz (nI n) ib (nI cnt) pl q wr z db)), (a 1, .inl (aI g, 2000, .inl (nf t))), (a 2, .inl (aI g, 12, .inl (F 2))), (a 3, .inl (aI g, 12, .inl (F 3))), (a 4, .inl (aI g, 12, .inl (F 4))), (a 5, .inl (aI g, 12, .inl (F 5)))])
          exact hR.2.1 _ _ _ _ d_Mod_look_93 rfl (⟨by first | rw [lookR_neg hu] | rw [lookR_big hu] | (rw [lookR_in hu (by omega)]; unfold lookV; first | rw [sel_neg hq9] | rw [sel_big hq9] | (rw [he, hb]; rfl)), rfl⟩)
        · skip
          exact absurd ⟨nI_pos' (by omega), nI_lt hu (by omega)⟩ c5
      · skip
        show j_V g κ 0 0 0 [(0, .ref o), (1, .int (nI u)), (2, .int (nI 4))] [] ([(o, .inr (6, mo a sz (nI n) ib (nI cnt) pl q wr z db)), (a 1, .inl (aI g, 2000, .inl (nf t))), (a 2, .inl (aI g, 12, .inl (F 2))), (a 3, .inl (aI g, 12, .inl (F 3))), (a 4, .inl (aI g, 12, .inl (F 4))), (a 5, .inl (aI g, 12, .inl (F 5)))])
        refine j_aload_n (pc := 0) C d_Mod_look_0 rfl 0 rfl ?_
        refine j_iload_n (pc := 1) C d_Mod_look_1 rfl 1 rfl ?_
        refine j_callV (pc := 2) (As := [.int (nI u)]) (rest := []) (wc := [(o, .inr (6, mo a sz (nI n) ib (nI cnt) pl q wr z db))]) (wr := [(a 1, .inl (aI g, 2000, .inl (nf t))), (a 2, .inl (aI g, 12, .inl (F 2))), (a 3, .inl (aI g, 12, .inl (F 3))), (a 4, .inl (aI g, 12, .inl (F 4))), (a 5, .inl (aI g, 12, .inl (F 5)))]) C (c_Mod_isTransaction (kl κ) g o a n cnt (nI u) sz ib pl db q wr z (by omega)) Y_Mod_isTransaction ml_Mod_187 im_Mod_isTransaction sl_Mod_isTransaction rfl ⟨by decide, by decide⟩ rfl (ci := 6) (q0 := 0) rfl rfl rfl (Nat.le_of_ble_eq_true rfl) (j_sb [0, 1, 2, 3, 4, 5] rfl rfl) rfl d_Mod_look_2 (fun r w1 hO => ?_)
        obtain ⟨rfl, rfl⟩ := hO
        show j_V g κ 0 0 5 [(0, .ref o), (1, .int (nI u)), (2, .int (nI 4))] [.int (if 0 ≤ nI u ∧ nI u < nI cnt then (1 : Int32) else 0)] ([(o, .inr (6, mo a sz (nI n) ib (nI cnt) pl q wr z db)), (a 1, .inl (aI g, 2000, .inl (nf t))), (a 2, .inl (aI g, 12, .inl (F 2))), (a 3, .inl (aI g, 12, .inl (F 3))), (a 4, .inl (aI g, 12, .inl (F 4))), (a 5, .inl (aI g, 12, .inl (F 5)))])
        refine j_if_neB (pc := 5) (tgt := 12) C d_Mod_look_5 rfl (fun c5 => ?_) (fun c5 => ?_)
        · skip
          refine j_iload_n (pc := 12) C d_Mod_look_12 rfl 2 rfl ?_
          refine j_tableIn (pc := 13) (tgt := 94) C d_Mod_look_13 (by decide) (by decide) rfl (by decide) ?_
          refine j_aload_n (pc := 94) C d_Mod_look_94 rfl 0 rfl ?_
          refine j_get (pc := 95) C F_Mod_20 0 rfl rfl d_Mod_look_95 ?_
          refine j_iload_n (pc := 98) C d_Mod_look_98 rfl 1 rfl ?_
          refine j_ialdN (pc := 99) C 2 1 rfl rfl (by omega) (by omega) d_Mod_look_99 ?_
          refine j_rwi (y := nI b) (by rw [h0, hb]; rfl) ?_
          refine j_i2l (pc := 100) (v := lN b) C d_Mod_look_100 (nI_l (by omega)) ?_
          exact hR.2.1 _ _ _ _ d_Mod_look_101 rfl (⟨by first | rw [lookR_neg hu] | rw [lookR_big hu] | (rw [lookR_in hu (by omega)]; unfold lookV; first | rw [sel_neg hq9] | rw [sel_big hq9] | (rw [he, hb]; rfl)), rfl⟩)
        · skip
          exact absurd ⟨nI_pos' (by omega), nI_lt hu (by omega)⟩ c5
      · skip
        show j_V g κ 0 0 0 [(0, .ref o), (1, .int (nI u)), (2, .int (nI 5))] [] ([(o, .inr (6, mo a sz (nI n) ib (nI cnt) pl q wr z db)), (a 1, .inl (aI g, 2000, .inl (nf t))), (a 2, .inl (aI g, 12, .inl (F 2))), (a 3, .inl (aI g, 12, .inl (F 3))), (a 4, .inl (aI g, 12, .inl (F 4))), (a 5, .inl (aI g, 12, .inl (F 5)))])
        refine j_aload_n (pc := 0) C d_Mod_look_0 rfl 0 rfl ?_
        refine j_iload_n (pc := 1) C d_Mod_look_1 rfl 1 rfl ?_
        refine j_callV (pc := 2) (As := [.int (nI u)]) (rest := []) (wc := [(o, .inr (6, mo a sz (nI n) ib (nI cnt) pl q wr z db))]) (wr := [(a 1, .inl (aI g, 2000, .inl (nf t))), (a 2, .inl (aI g, 12, .inl (F 2))), (a 3, .inl (aI g, 12, .inl (F 3))), (a 4, .inl (aI g, 12, .inl (F 4))), (a 5, .inl (aI g, 12, .inl (F 5)))]) C (c_Mod_isTransaction (kl κ) g o a n cnt (nI u) sz ib pl db q wr z (by omega)) Y_Mod_isTransaction ml_Mod_187 im_Mod_isTransaction sl_Mod_isTransaction rfl ⟨by decide, by decide⟩ rfl (ci := 6) (q0 := 0) rfl rfl rfl (Nat.le_of_ble_eq_true rfl) (j_sb [0, 1, 2, 3, 4, 5] rfl rfl) rfl d_Mod_look_2 (fun r w1 hO => ?_)
        obtain ⟨rfl, rfl⟩ := hO
        show j_V g κ 0 0 5 [(0, .ref o), (1, .int (nI u)), (2, .int (nI 5))] [.int (if 0 ≤ nI u ∧ nI u < nI cnt then (1 : Int32) else 0)] ([(o, .inr (6, mo a sz (nI n) ib (nI cnt) pl q wr z db)), (a 1, .inl (aI g, 2000, .inl (nf t))), (a 2, .inl (aI g, 12, .inl (F 2))), (a 3, .inl (aI g, 12, .inl (F 3))), (a 4, .inl (aI g, 12, .inl (F 4))), (a 5, .inl (aI g, 12, .inl (F 5)))])
        refine j_if_neB (pc := 5) (tgt := 12) C d_Mod_look_5 rfl (fun c5 => ?_) (fun c5 => ?_)
        · skip
          refine j_iload_n (pc := 12) C d_Mod_look_12 rfl 2 rfl ?_
          refine j_tableIn (pc := 13) (tgt := 102) C d_Mod_look_13 (by decide) (by decide) rfl (by decide) ?_
          refine j_aload_n (pc := 102) C d_Mod_look_102 rfl 0 rfl ?_
          refine j_get (pc := 103) C F_Mod_23 0 rfl rfl d_Mod_look_103 ?_
          refine j_iload_n (pc := 106) C d_Mod_look_106 rfl 1 rfl ?_
          refine j_ialdN (pc := 107) C 3 1 rfl rfl (by omega) (by omega) d_Mod_look_107 ?_
          refine j_rwi (y := nI e) (h1) ?_
          refine j_aload_n (pc := 108) C d_Mod_look_108 rfl 0 rfl ?_
          refine j_get (pc := 109) C F_Mod_20 0 rfl rfl d_Mod_look_109 ?_
          refine j_iload_n (pc := 112) C d_Mod_look_112 rfl 1 rfl ?_
          refine j_ialdN (pc := 113) C 2 1 rfl rfl (by omega) (by omega) d_Mod_look_113 ?_
          refine j_rwi (y := nI b) (by rw [h0, hb]; rfl) ?_
          refine j_isubN (pc := 114) C (by omega) d_Mod_look_114 ?_
          refine j_i2l (pc := 115) (v := lN (e - b)) C d_Mod_look_115 (nI_l (by omega)) ?_
          exact hR.2.1 _ _ _ _ d_Mod_look_116 rfl (⟨by first | rw [lookR_neg hu] | rw [lookR_big hu] | (rw [lookR_in hu (by omega)]; unfold lookV; first | rw [sel_neg hq9] | rw [sel_big hq9] | (rw [he, hb]; rfl)), rfl⟩)
        · skip
          exact absurd ⟨nI_pos' (by omega), nI_lt hu (by omega)⟩ c5
abbrev rm_Mod_input : Room := { frames := 1, cells := 0, slots := 0, locals := 25 }
set_option maxHeartbeats 4000000 in
set_option maxRecDepth 100000 in
theorem c_Mod_input (l : Launch) (g : JX) (o : Nat) (a : Nat → Nat) (n cnt : Nat) (t : Nat → Nat) (s2 : RS) (F : Nat → Nat → Int32) (sz ib pl db q wr z : Int32) (tt i0 x : Int32) (hn : n ≤ 2000) (hT : ∀ j, t j < 256) (hc : cnt ≤ 12) (hA : MAll t n s2 cnt F) (hE : 0 < cnt → ∃ e0, itN (rTx t n) cnt s2 = .inl e0) : j_Ct l y_Mod_input b_Mod_input 5 (some .long) rm_Mod_input g ([(o, .inr (6, mo a sz (nI n) ib (nI cnt) pl q wr z db)), (a 1, .inl (aI g, 2000, .inl (nf t))), (a 4, .inl (aI g, 12, .inl (F 4))), (a 6, .inl (aI g, 96, .inl (F 6))), (a 7, .inl (aI g, 96, .inl (F 7))), (a 8, .inl (aI g, 96, .inl (F 8)))]) [.ref o, .int tt, .int i0, .int x] (fun r w => r = some (.long (inR t n s2 cnt tt i0 x)) ∧ w = [(o, .inr (6, mo a sz (nI n) ib (nI cnt) pl q wr z db)), (a 1, .inl (aI g, 2000, .inl (nf t))), (a 4, .inl (aI g, 12, .inl (F 4))), (a 6, .inl (aI g, 96, .inl (F 6))), (a 7, .inl (aI g, 96, .inl (F 7))), (a 8, .inl (aI g, 96, .inl (F 8)))]) 0 0 := by
  refine j_ct (by decide) (Nat.le_of_ble_eq_true rfl) (fun κ hkl C hR hI => ?_)
  show j_V g κ 0 0 0 [(0, .ref o), (1, .int tt), (2, .int i0), (3, .int x)] [] ([(o, .inr (6, mo a sz (nI n) ib (nI cnt) pl q wr z db)), (a 1, .inl (aI g, 2000, .inl (nf t))), (a 4, .inl (aI g, 12, .inl (F 4))), (a 6, .inl (aI g, 96, .inl (F 6))), (a 7, .inl (aI g, 96, .inl (F 7))), (a 8, .inl (aI g, 96, .inl (F 8)))])
  rcases pk_ix tt (n := cnt) (by omega) with hu | hu | ⟨u, hu, rfl⟩
  · skip
    show j_V g κ 0 0 0 [(0, .ref o), (1, .int tt), (2, .int i0), (3, .int x)] [] ([(o, .inr (6, mo a sz (nI n) ib (nI cnt) pl q wr z db)), (a 1, .inl (aI g, 2000, .inl (nf t))), (a 4, .inl (aI g, 12, .inl (F 4))), (a 6, .inl (aI g, 96, .inl (F 6))), (a 7, .inl (aI g, 96, .inl (F 7))), (a 8, .inl (aI g, 96, .inl (F 8)))])
    refine j_aload_n (pc := 0) C d_Mod_input_0 rfl 0 rfl ?_
    refine j_iload_n (pc := 1) C d_Mod_input_1 rfl 1 rfl ?_
    refine j_callV (pc := 2) (As := [.int tt]) (rest := []) (wc := [(o, .inr (6, mo a sz (nI n) ib (nI cnt) pl q wr z db))]) (wr := [(a 1, .inl (aI g, 2000, .inl (nf t))), (a 4, .inl (aI g, 12, .inl (F 4))), (a 6, .inl (aI g, 96, .inl (F 6))), (a 7, .inl (aI g, 96, .inl (F 7))), (a 8, .inl (aI g, 96, .inl (F 8)))]) C (c_Mod_isTransaction (kl κ) g o a n cnt tt sz ib pl db q wr z (by omega)) Y_Mod_isTransaction ml_Mod_187 im_Mod_isTransaction sl_Mod_isTransaction rfl ⟨by decide, by decide⟩ rfl (ci := 6) (q0 := 0) rfl rfl rfl (Nat.le_of_ble_eq_true rfl) (j_sb [0, 1, 2, 3, 4, 5] rfl rfl) rfl d_Mod_input_2 (fun r w1 hO => ?_)
    obtain ⟨rfl, rfl⟩ := hO
    show j_V g κ 0 0 5 [(0, .ref o), (1, .int tt), (2, .int i0), (3, .int x)] [.int (if 0 ≤ tt ∧ tt < nI cnt then (1 : Int32) else 0)] ([(o, .inr (6, mo a sz (nI n) ib (nI cnt) pl q wr z db)), (a 1, .inl (aI g, 2000, .inl (nf t))), (a 4, .inl (aI g, 12, .inl (F 4))), (a 6, .inl (aI g, 96, .inl (F 6))), (a 7, .inl (aI g, 96, .inl (F 7))), (a 8, .inl (aI g, 96, .inl (F 8)))])
    refine j_if_eqB (pc := 5) (tgt := 22) C d_Mod_input_5 rfl (fun c5 => ?_) (fun c5 => ?_)
    · skip
      refine j_ldc2 (pc := 22) C k_Mod_185 d_Mod_input_22 ?_
      exact hR.2.1 _ _ _ _ d_Mod_input_25 rfl (⟨by first | (exfalso; omega) | rw [inR_neg hu] | rw [inR_big hu] | (rw [inR_1 hu (by omega), if_neg (fun z => nlt0 (by assumption) z.1)]) | (rw [inR_1 hu (by omega), if_neg (fun z => nle (by assumption) z.2)]) | (rw [inR_in hu (by omega) hi (by omega)]; unfold inV; first | rw [sel_neg hq9] | rw [sel_big hq9] | (rw [g2, g1]; rfl)), rfl⟩)
    · skip
      first | exact absurd c5.1 (nlt0 hu) | exact absurd c5.2 (nle hu)
  · skip
    show j_V g κ 0 0 0 [(0, .ref o), (1, .int tt), (2, .int i0), (3, .int x)] [] ([(o, .inr (6, mo a sz (nI n) ib (nI cnt) pl q wr z db)), (a 1, .inl (aI g, 2000, .inl (nf t))), (a 4, .inl (aI g, 12, .inl (F 4))), (a 6, .inl (aI g, 96, .inl (F 6))), (a 7, .inl (aI g, 96, .inl (F 7))), (a 8, .inl (aI g, 96, .inl (F 8)))])
    refine j_aload_n (pc := 0) C d_Mod_input_0 rfl 0 rfl ?_
    refine j_iload_n (pc := 1) C d_Mod_input_1 rfl 1 rfl ?_
    refine j_callV (pc := 2) (As := [.int tt]) (rest := []) (wc := [(o, .inr (6, mo a sz (nI n) ib (nI cnt) pl q wr z db))]) (wr := [(a 1, .inl (aI g, 2000, .inl (nf t))), (a 4, .inl (aI g, 12, .inl (F 4))), (a 6, .inl (aI g, 96, .inl (F 6))), (a 7, .inl (aI g, 96, .inl (F 7))), (a 8, .inl (aI g, 96, .inl (F 8)))]) C (c_Mod_isTransaction (kl κ) g o a n cnt tt sz ib pl db q wr z (by omega)) Y_Mod_isTransaction ml_Mod_187 im_Mod_isTransaction sl_Mod_isTransaction rfl ⟨by decide, by decide⟩ rfl (ci := 6) (q0 := 0) rfl rfl rfl (Nat.le_of_ble_eq_true rfl) (j_sb [0, 1, 2, 3, 4, 5] rfl rfl) rfl d_Mod_input_2 (fun r w1 hO => ?_)
    obtain ⟨rfl, rfl⟩ := hO
    show j_V g κ 0 0 5 [(0, .ref o), (1, .int tt), (2, .int i0), (3, .int x)] [.int (if 0 ≤ tt ∧ tt < nI cnt then (1 : Int32) else 0)] ([(o, .inr (6, mo a sz (nI n) ib (nI cnt) pl q wr z db)), (a 1, .inl (aI g, 2000, .inl (nf t))), (a 4, .inl (aI g, 12, .inl (F 4))), (a 6, .inl (aI g, 96, .inl (F 6))), (a 7, .inl (aI g, 96, .inl (F 7))), (a 8, .inl (aI g, 96, .inl (F 8)))])
    refine j_if_eqB (pc := 5) (tgt := 22) C d_Mod_input_5 rfl (fun c5 => ?_) (fun c5 => ?_)
    · skip
      refine j_ldc2 (pc := 22) C k_Mod_185 d_Mod_input_22 ?_
      exact hR.2.1 _ _ _ _ d_Mod_input_25 rfl (⟨by first | (exfalso; omega) | rw [inR_neg hu] | rw [inR_big hu] | (rw [inR_1 hu (by omega), if_neg (fun z => nlt0 (by assumption) z.1)]) | (rw [inR_1 hu (by omega), if_neg (fun z => nle (by assumption) z.2)]) | (rw [inR_in hu (by omega) hi (by omega)]; unfold inV; first | rw [sel_neg hq9] | rw [sel_big hq9] | (rw [g2, g1]; rfl)), rfl⟩)
    · skip
      first | exact absurd c5.1 (nlt0 hu) | exact absurd c5.2 (nle hu)
  · skip
    obtain ⟨e0, hE0⟩ := hE (by omega)
    obtain ⟨b, e, hb, he, hbe, hen, he4⟩ := tx_st hE0 hu
    obtain ⟨h0, h1, h2, h3, hHi, hHo⟩ := hA u hu e he
    have hz8 : (xZ t n (itN (rTx t n) u s2)).1 ≤ 8 := rSize_le
    have hy8 : (xY t n (itN (rTx t n) u s2)).1 ≤ 8 := rSize_le
    rcases pk_ix i0 (n := (xZ t n (itN (rTx t n) u s2)).1) (by omega) with hi | hi | ⟨i, hi, rfl⟩
    · skip
      show j_V g κ 0 0 0 [(0, .ref o), (1, .int (nI u)), (2, .int i0), (3, .int x)] [] ([(o, .inr (6, mo a sz (nI n) ib (nI cnt) pl q wr z db)), (a 1, .inl (aI g, 2000, .inl (nf t))), (a 4, .inl (aI g, 12, .inl (F 4))), (a 6, .inl (aI g, 96, .inl (F 6))), (a 7, .inl (aI g, 96, .inl (F 7))), (a 8, .inl (aI g, 96, .inl (F 8)))])
      refine j_aload_n (pc := 0) C d_Mod_input_0 rfl 0 rfl ?_
      refine j_iload_n (pc := 1) C d_Mod_input_1 rfl 1 rfl ?_
      refine j_callV (pc := 2) (As := [.int (nI u)]) (rest := []) (wc := [(o, .inr (6, mo a sz (nI n) ib (nI cnt) pl q wr z db))]) (wr := [(a 1, .inl (aI g, 2000, .inl (nf t))), (a 4, .inl (aI g, 12, .inl (F 4))), (a 6, .inl (aI g, 96, .inl (F 6))), (a 7, .inl (aI g, 96, .inl (F 7))), (a 8, .inl (aI g, 96, .inl (F 8)))]) C (c_Mod_isTransaction (kl κ) g o a n cnt (nI u) sz ib pl db q wr z (by omega)) Y_Mod_isTransaction ml_Mod_187 im_Mod_isTransaction sl_Mod_isTransaction rfl ⟨by decide, by decide⟩ rfl (ci := 6) (q0 := 0) rfl rfl rfl (Nat.le_of_ble_eq_true rfl) (j_sb [0, 1, 2, 3, 4, 5] rfl rfl) rfl d_Mod_input_2 (fun r w1 hO => ?_)
      obtain ⟨rfl, rfl⟩ := hO
      show j_V g κ 0 0 5 [(0, .ref o), (1, .int (nI u)), (2, .int i0), (3, .int x)] [.int (if 0 ≤ nI u ∧ nI u < nI cnt then (1 : Int32) else 0)] ([(o, .inr (6, mo a sz (nI n) ib (nI cnt) pl q wr z db)), (a 1, .inl (aI g, 2000, .inl (nf t))), (a 4, .inl (aI g, 12, .inl (F 4))), (a 6, .inl (aI g, 96, .inl (F 6))), (a 7, .inl (aI g, 96, .inl (F 7))), (a 8, .inl (aI g, 96, .inl (F 8)))])
      refine j_if_eqB (pc := 5) (tgt := 22) C d_Mod_input_5 rfl (fun c5 => ?_) (fun c5 => ?_)
      · skip
        exact absurd ⟨nI_pos' (by omega), nI_lt hu (by omega)⟩ c5
      · skip
        refine j_iload_n (pc := 8) C d_Mod_input_8 rfl 2 rfl ?_
        refine j_if_lt (pc := 9) (tgt := 22) C d_Mod_input_9 rfl (fun c9 => ?_) (fun c9 => ?_)
        · skip
          refine j_ldc2 (pc := 22) C k_Mod_185 d_Mod_input_22 ?_
          exact hR.2.1 _ _ _ _ d_Mod_input_25 rfl (⟨by first | (exfalso; omega) | rw [inR_neg hu] | rw [inR_big hu] | (rw [inR_1 hu (by omega), if_neg (fun z => nlt0 (by assumption) z.1)]) | (rw [inR_1 hu (by omega), if_neg (fun z => nle (by assumption) z.2)]) | (rw [inR_in hu (by omega) hi (by omega)]; unfold inV; first | rw [sel_neg hq9] | rw [sel_big hq9] | (rw [g2, g1]; rfl)), rfl⟩)
        · skip
          refine j_iload_n (pc := 12) C d_Mod_input_12 rfl 2 rfl ?_
          refine j_aload_n (pc := 13) C d_Mod_input_13 rfl 0 rfl ?_
          refine j_get (pc := 14) C F_Mod_26 0 rfl rfl d_Mod_input_14 ?_
          refine j_iload_n (pc := 17) C d_Mod_input_17 rfl 1 rfl ?_
          refine j_ialdN (pc := 18) C 2 1 rfl rfl (by omega) (by omega) d_Mod_input_18 ?_
          refine j_rwi (y := nI ((xZ t n (itN (rTx t n) u s2)).1)) (h2) ?_
          refine j_icmp_lt (pc := 19) (tgt := 26) C d_Mod_input_19 rfl (fun c19 => ?_) (fun c19 => ?_)
          · skip
            first | exact absurd hi c9 | exact absurd c19 (nle hi)
          · skip
            refine j_ldc2 (pc := 22) C k_Mod_185 d_Mod_input_22 ?_
            exact hR.2.1 _ _ _ _ d_Mod_input_25 rfl (⟨by first | (exfalso; omega) | rw [inR_neg hu] | rw [inR_big hu] | (rw [inR_1 hu (by omega), if_neg (fun z => nlt0 (by assumption) z.1)]) | (rw [inR_1 hu (by omega), if_neg (fun z => nle (by assumption) z.2)]) | (rw [inR_in hu (by omega) hi (by omega)]; unfold inV; first | rw [sel_neg hq9] | rw [sel_big hq9] | (rw [g2, g1]; rfl)), rfl⟩)
    · skip
      show j_V g κ 0 0 0 [(0, .ref o), (1, .int (nI u)), (2, .int i0), (3, .int x)] [] ([(o, .inr (6, mo a sz (nI n) ib (nI cnt) pl q wr z db)), (a 1, .inl (aI g, 2000, .inl (nf t))), (a 4, .inl (aI g, 12, .inl (F 4))), (a 6, .inl (aI g, 96, .inl (F 6))), (a 7, .inl (aI g, 96, .inl (F 7))), (a 8, .inl (aI g, 96, .inl (F 8)))])
      refine j_aload_n (pc := 0) C d_Mod_input_0 rfl 0 rfl ?_
      refine j_iload_n (pc := 1) C d_Mod_input_1 rfl 1 rfl ?_
      refine j_callV (pc := 2) (As := [.int (nI u)]) (rest := []) (wc := [(o, .inr (6, mo a sz (nI n) ib (nI cnt) pl q wr z db))]) (wr := [(a 1, .inl (aI g, 2000, .inl (nf t))), (a 4, .inl (aI g, 12, .inl (F 4))), (a 6, .inl (aI g, 96, .inl (F 6))), (a 7, .inl (aI g, 96, .inl (F 7))), (a 8, .inl (aI g, 96, .inl (F 8)))]) C (c_Mod_isTransaction (kl κ) g o a n cnt (nI u) sz ib pl db q wr z (by omega)) Y_Mod_isTransaction ml_Mod_187 im_Mod_isTransaction sl_Mod_isTransaction rfl ⟨by decide, by decide⟩ rfl (ci := 6) (q0 := 0) rfl rfl rfl (Nat.le_of_ble_eq_true rfl) (j_sb [0, 1, 2, 3, 4, 5] rfl rfl) rfl d_Mod_input_2 (fun r w1 hO => ?_)
      obtain ⟨rfl, rfl⟩ := hO
      show j_V g κ 0 0 5 [(0, .ref o), (1, .int (nI u)), (2, .int i0), (3, .int x)] [.int (if 0 ≤ nI u ∧ nI u < nI cnt then (1 : Int32) else 0)] ([(o, .inr (6, mo a sz (nI n) ib (nI cnt) pl q wr z db)), (a 1, .inl (aI g, 2000, .inl (nf t))), (a 4, .inl (aI g, 12, .inl (F 4))), (a 6, .inl (aI g, 96, .inl (F 6))), (a 7, .inl (aI g, 96, .inl (F 7))), (a 8, .inl (aI g, 96, .inl (F 8)))])
      refine j_if_eqB (pc := 5) (tgt := 22) C d_Mod_input_5 rfl (fun c5 => ?_) (fun c5 => ?_)
      · skip
        exact absurd ⟨nI_pos' (by omega), nI_lt hu (by omega)⟩ c5
      · skip
        refine j_iload_n (pc := 8) C d_Mod_input_8 rfl 2 rfl ?_
        refine j_if_lt (pc := 9) (tgt := 22) C d_Mod_input_9 rfl (fun c9 => ?_) (fun c9 => ?_)
        · skip
          refine j_ldc2 (pc := 22) C k_Mod_185 d_Mod_input_22 ?_
          exact hR.2.1 _ _ _ _ d_Mod_input_25 rfl (⟨by first | (exfalso; omega) | rw [inR_neg hu] | rw [inR_big hu] | (rw [inR_1 hu (by omega), if_neg (fun z => nlt0 (by assumption) z.1)]) | (rw [inR_1 hu (by omega), if_neg (fun z => nle (by assumption) z.2)]) | (rw [inR_in hu (by omega) hi (by omega)]; unfold inV; first | rw [sel_neg hq9] | rw [sel_big hq9] | (rw [g2, g1]; rfl)), rfl⟩)
        · skip
          refine j_iload_n (pc := 12) C d_Mod_input_12 rfl 2 rfl ?_
          refine j_aload_n (pc := 13) C d_Mod_input_13 rfl 0 rfl ?_
          refine j_get (pc := 14) C F_Mod_26 0 rfl rfl d_Mod_input_14 ?_
          refine j_iload_n (pc := 17) C d_Mod_input_17 rfl 1 rfl ?_
          refine j_ialdN (pc := 18) C 2 1 rfl rfl (by omega) (by omega) d_Mod_input_18 ?_
          refine j_rwi (y := nI ((xZ t n (itN (rTx t n) u s2)).1)) (h2) ?_
          refine j_icmp_lt (pc := 19) (tgt := 26) C d_Mod_input_19 rfl (fun c19 => ?_) (fun c19 => ?_)
          · skip
            first | exact absurd hi c9 | exact absurd c19 (nle hi)
          · skip
            refine j_ldc2 (pc := 22) C k_Mod_185 d_Mod_input_22 ?_
            exact hR.2.1 _ _ _ _ d_Mod_input_25 rfl (⟨by first | (exfalso; omega) | rw [inR_neg hu] | rw [inR_big hu] | (rw [inR_1 hu (by omega), if_neg (fun z => nlt0 (by assumption) z.1)]) | (rw [inR_1 hu (by omega), if_neg (fun z => nle (by assumption) z.2)]) | (rw [inR_in hu (by omega) hi (by omega)]; unfold inV; first | rw [sel_neg hq9] | rw [sel_big hq9] | (rw [g2, g1]; rfl)), rfl⟩)
    · skip
      obtain ⟨a1, q1, p1, g1, g2, g3, g4, g5, g6⟩ := in_st he hi
      obtain ⟨k1, k2, k3⟩ := hHi i hi p1 g3
      have hl200 : (inZ t n (xI t n (itN (rTx t n) u s2) i)).1 ≤ 200 := rSize_le
      rcases pk_ix x (n := 5) (by decide) with hq9 | hq9 | ⟨q9, hq9, rfl⟩
      · skip
        show j_V g κ 0 0 0 [(0, .ref o), (1, .int (nI u)), (2, .int (nI i)), (3, .int x)] [] ([(o, .inr (6, mo a sz (nI n) ib (nI cnt) pl q wr z db)), (a 1, .inl (aI g, 2000, .inl (nf t))), (a 4, .inl (aI g, 12, .inl (F 4))), (a 6, .inl (aI g, 96, .inl (F 6))), (a 7, .inl (aI g, 96, .inl (F 7))), (a 8, .inl (aI g, 96, .inl (F 8)))])
        refine j_aload_n (pc := 0) C d_Mod_input_0 rfl 0 rfl ?_
        refine j_iload_n (pc := 1) C d_Mod_input_1 rfl 1 rfl ?_
        refine j_callV (pc := 2) (As := [.int (nI u)]) (rest := []) (wc := [(o, .inr (6, mo a sz (nI n) ib (nI cnt) pl q wr z db))]) (wr := [(a 1, .inl (aI g, 2000, .inl (nf t))), (a 4, .inl (aI g, 12, .inl (F 4))), (a 6, .inl (aI g, 96, .inl (F 6))), (a 7, .inl (aI g, 96, .inl (F 7))), (a 8, .inl (aI g, 96, .inl (F 8)))]) C (c_Mod_isTransaction (kl κ) g o a n cnt (nI u) sz ib pl db q wr z (by omega)) Y_Mod_isTransaction ml_Mod_187 im_Mod_isTransaction sl_Mod_isTransaction rfl ⟨by decide, by decide⟩ rfl (ci := 6) (q0 := 0) rfl rfl rfl (Nat.le_of_ble_eq_true rfl) (j_sb [0, 1, 2, 3, 4, 5] rfl rfl) rfl d_Mod_input_2 (fun r w1 hO => ?_)
        obtain ⟨rfl, rfl⟩ := hO
        show j_V g κ 0 0 5 [(0, .ref o), (1, .int (nI u)), (2, .int (nI i)), (3, .int x)] [.int (if 0 ≤ nI u ∧ nI u < nI cnt then (1 : Int32) else 0)] ([(o, .inr (6, mo a sz (nI n) ib (nI cnt) pl q wr z db)), (a 1, .inl (aI g, 2000, .inl (nf t))), (a 4, .inl (aI g, 12, .inl (F 4))), (a 6, .inl (aI g, 96, .inl (F 6))), (a 7, .inl (aI g, 96, .inl (F 7))), (a 8, .inl (aI g, 96, .inl (F 8)))])
        refine j_if_eqB (pc := 5) (tgt := 22) C d_Mod_input_5 rfl (fun c5 => ?_) (fun c5 => ?_)
        · skip
          exact absurd ⟨nI_pos' (by omega), nI_lt hu (by omega)⟩ c5
        · skip
          refine j_iload_n (pc := 8) C d_Mod_input_8 rfl 2 rfl ?_
          refine j_if_ltN (pc := 9) (tgt := 22) C (by omega) d_Mod_input_9 rfl ?_
          refine j_iload_n (pc := 12) C d_Mod_input_12 rfl 2 rfl ?_
          refine j_aload_n (pc := 13) C d_Mod_input_13 rfl 0 rfl ?_
          refine j_get (pc := 14) C F_Mod_26 0 rfl rfl d_Mod_input_14 ?_
          refine j_iload_n (pc := 17) C d_Mod_input_17 rfl 1 rfl ?_
          refine j_ialdN (pc := 18) C 2 1 rfl rfl (by omega) (by omega) d_Mod_input_18 ?_
          refine j_rwi (y := nI ((xZ t n (itN (rTx t n) u s2)).1)) (h2) ?_
          refine j_icmp_ltN (pc := 19) (tgt := 26) C (by omega) (by omega) d_Mod_input_19 rfl (fun c19 => ?_) (fun c19 => ?_)
          · skip
            refine j_bipush (pc := 26) (v := nI 8) C d_Mod_input_26 (by decide) ?_
            refine j_iload_n (pc := 28) C d_Mod_input_28 rfl 1 rfl ?_
            refine j_imulN (pc := 29) C d_Mod_input_29 ?_
            refine j_iload_n (pc := 30) C d_Mod_input_30 rfl 2 rfl ?_
            refine j_iaddN (pc := 31) C d_Mod_input_31 ?_
            refine j_istore (pc := 32) (lv' := [(4, .int (nI ((8 * u) + i))), (0, .ref o), (1, .int (nI u)), (2, .int (nI i)), (3, .int x)]) C d_Mod_input_32 (by decide) rfl ?_
            refine j_iload_n (pc := 34) C d_Mod_input_34 rfl 4 rfl ?_
            refine j_tableOut (pc := 35) (tgt := 132) C d_Mod_input_35 (Or.inl (ts_neg hq9)) (by decide) ?_
            refine j_ldc2 (pc := 132) C k_Mod_185 d_Mod_input_132 ?_
            exact hR.2.1 _ _ _ _ d_Mod_input_135 rfl (⟨by first | (exfalso; omega) | rw [inR_neg hu] | rw [inR_big hu] | (rw [inR_1 hu (by omega), if_neg (fun z => nlt0 (by assumption) z.1)]) | (rw [inR_1 hu (by omega), if_neg (fun z => nle (by assumption) z.2)]) | (rw [inR_in hu (by omega) hi (by omega)]; unfold inV; first | rw [sel_neg hq9] | rw [sel_big hq9] | (rw [g2, g1]; rfl)), rfl⟩)
          · skip
            refine j_ldc2 (pc := 22) C k_Mod_185 d_Mod_input_22 ?_
            exact hR.2.1 _ _ _ _ d_Mod_input_25 rfl (⟨by first | (exfalso; omega) | rw [inR_neg hu] | rw [inR_big hu] | (rw [inR_1 hu (by omega), if_neg (fun z => nlt0 (by assumption) z.1)]) | (rw [inR_1 hu (by omega), if_neg (fun z => nle (by assumption) z.2)]) | (rw [inR_in hu (by omega) hi (by omega)]; unfold inV; first | rw [sel_neg hq9] | rw [sel_big hq9] | (rw [g2, g1]; rfl)), rfl⟩)
      · skip
        show j_V g κ 0 0 0 [(0, .ref o), (1, .int (nI u)), (2, .int (nI i)), (3, .int x)] [] ([(o, .inr (6, mo a sz (nI n) ib (nI cnt) pl q wr z db)), (a 1, .inl (aI g, 2000, .inl (nf t))), (a 4, .inl (aI g, 12, .inl (F 4))), (a 6, .inl (aI g, 96, .inl (F 6))), (a 7, .inl (aI g, 96, .inl (F 7))), (a 8, .inl (aI g, 96, .inl (F 8)))])
        refine j_aload_n (pc := 0) C d_Mod_input_0 rfl 0 rfl ?_
        refine j_iload_n (pc := 1) C d_Mod_input_1 rfl 1 rfl ?_
        refine j_callV (pc := 2) (As := [.int (nI u)]) (rest := []) (wc := [(o, .inr (6, mo a sz (nI n) ib (nI cnt) pl q wr z db))]) (wr := [(a 1, .inl (aI g, 2000, .inl (nf t))), (a 4, .inl (aI g, 12, .inl (F 4))), (a 6, .inl (aI g, 96, .inl (F 6))), (a 7, .inl (aI g, 96, .inl (F 7))), (a 8, .inl (aI g, 96, .inl (F 8)))]) C (c_Mod_isTransaction (kl κ) g o a n cnt (nI u) sz ib pl db q wr z (by omega)) Y_Mod_isTransaction ml_Mod_187 im_Mod_isTransaction sl_Mod_isTransaction rfl ⟨by decide, by decide⟩ rfl (ci := 6) (q0 := 0) rfl rfl rfl (Nat.le_of_ble_eq_true rfl) (j_sb [0, 1, 2, 3, 4, 5] rfl rfl) rfl d_Mod_input_2 (fun r w1 hO => ?_)
        obtain ⟨rfl, rfl⟩ := hO
        show j_V g κ 0 0 5 [(0, .ref o), (1, .int (nI u)), (2, .int (nI i)), (3, .int x)] [.int (if 0 ≤ nI u ∧ nI u < nI cnt then (1 : Int32) else 0)] ([(o, .inr (6, mo a sz (nI n) ib (nI cnt) pl q wr z db)), (a 1, .inl (aI g, 2000, .inl (nf t))), (a 4, .inl (aI g, 12, .inl (F 4))), (a 6, .inl (aI g, 96, .inl (F 6))), (a 7, .inl (aI g, 96, .inl (F 7))), (a 8, .inl (aI g, 96, .inl (F 8)))])
        refine j_if_eqB (pc := 5) (tgt := 22) C d_Mod_input_5 rfl (fun c5 => ?_) (fun c5 => ?_)
        · skip
          exact absurd ⟨nI_pos' (by omega), nI_lt hu (by omega)⟩ c5
        · skip
          refine j_iload_n (pc := 8) C d_Mod_input_8 rfl 2 rfl ?_
          refine j_if_ltN (pc := 9) (tgt := 22) C (by omega) d_Mod_input_9 rfl ?_
          refine j_iload_n (pc := 12) C d_Mod_input_12 rfl 2 rfl ?_
          refine j_aload_n (pc := 13) C d_Mod_input_13 rfl 0 rfl ?_
          refine j_get (pc := 14) C F_Mod_26 0 rfl rfl d_Mod_input_14 ?_
          refine j_iload_n (pc := 17) C d_Mod_input_17 rfl 1 rfl ?_
          refine j_ialdN (pc := 18) C 2 1 rfl rfl (by omega) (by omega) d_Mod_input_18 ?_
          refine j_rwi (y := nI ((xZ t n (itN (rTx t n) u s2)).1)) (h2) ?_
          refine j_icmp_ltN (pc := 19) (tgt := 26) C (by omega) (by omega) d_Mod_input_19 rfl (fun c19 => ?_) (fun c19 => ?_)
          · skip
            refine j_bipush (pc := 26) (v := nI 8) C d_Mod_input_26 (by decide) ?_
            refine j_iload_n (pc := 28) C d_Mod_input_28 rfl 1 rfl ?_
            refine j_imulN (pc := 29) C d_Mod_input_29 ?_
            refine j_iload_n (pc := 30) C d_Mod_input_30 rfl 2 rfl ?_
            refine j_iaddN (pc := 31) C d_Mod_input_31 ?_
            refine j_istore (pc := 32) (lv' := [(4, .int (nI ((8 * u) + i))), (0, .ref o), (1, .int (nI u)), (2, .int (nI i)), (3, .int x)]) C d_Mod_input_32 (by decide) rfl ?_
            refine j_iload_n (pc := 34) C d_Mod_input_34 rfl 4 rfl ?_
            refine j_tableOut (pc := 35) (tgt := 132) C d_Mod_input_35 (Or.inr (ts_big (k := 4) (by decide) hq9)) (by decide) ?_
            refine j_ldc2 (pc := 132) C k_Mod_185 d_Mod_input_132 ?_
            exact hR.2.1 _ _ _ _ d_Mod_input_135 rfl (⟨by first | (exfalso; omega) | rw [inR_neg hu] | rw [inR_big hu] | (rw [inR_1 hu (by omega), if_neg (fun z => nlt0 (by assumption) z.1)]) | (rw [inR_1 hu (by omega), if_neg (fun z => nle (by assumption) z.2)]) | (rw [inR_in hu (by omega) hi (by omega)]; unfold inV; first | rw [sel_neg hq9] | rw [sel_big hq9] | (rw [g2, g1]; rfl)), rfl⟩)
          · skip
            refine j_ldc2 (pc := 22) C k_Mod_185 d_Mod_input_22 ?_
            exact hR.2.1 _ _ _ _ d_Mod_input_25 rfl (⟨by first | (exfalso; omega) | rw [inR_neg hu] | rw [inR_big hu] | (rw [inR_1 hu (by omega), if_neg (fun z => nlt0 (by assumption) z.1)]) | (rw [inR_1 hu (by omega), if_neg (fun z => nle (by assumption) z.2)]) | (rw [inR_in hu (by omega) hi (by omega)]; unfold inV; first | rw [sel_neg hq9] | rw [sel_big hq9] | (rw [g2, g1]; rfl)), rfl⟩)
      · skip
        rcases (by omega : q9 = 0 ∨ q9 = 1 ∨ q9 = 2 ∨ q9 = 3 ∨ q9 = 4) with rfl | rfl | rfl | rfl | rfl
        · skip
          show j_V g κ 0 0 0 [(0, .ref o), (1, .int (nI u)), (2, .int (nI i)), (3, .int (nI 0))] [] ([(o, .inr (6, mo a sz (nI n) ib (nI cnt) pl q wr z db)), (a 1, .inl (aI g, 2000, .inl (nf t))), (a 4, .inl (aI g, 12, .inl (F 4))), (a 6, .inl (aI g, 96, .inl (F 6))), (a 7, .inl (aI g, 96, .inl (F 7))), (a 8, .inl (aI g, 96, .inl (F 8)))])
          refine j_aload_n (pc := 0) C d_Mod_input_0 rfl 0 rfl ?_
          refine j_iload_n (pc := 1) C d_Mod_input_1 rfl 1 rfl ?_
          refine j_callV (pc := 2) (As := [.int (nI u)]) (rest := []) (wc := [(o, .inr (6, mo a sz (nI n) ib (nI cnt) pl q wr z db))]) (wr := [(a 1, .inl (aI g, 2000, .inl (nf t))), (a 4, .inl (aI g, 12, .inl (F 4))), (a 6, .inl (aI g, 96, .inl (F 6))), (a 7, .inl (aI g, 96, .inl (F 7))), (a 8, .inl (aI g, 96, .inl (F 8)))]) C (c_Mod_isTransaction (kl κ) g o a n cnt (nI u) sz ib pl db q wr z (by omega)) Y_Mod_isTransaction ml_Mod_187 im_Mod_isTransaction sl_Mod_isTransaction rfl ⟨by decide, by decide⟩ rfl (ci := 6) (q0 := 0) rfl rfl rfl (Nat.le_of_ble_eq_true rfl) (j_sb [0, 1, 2, 3, 4, 5] rfl rfl) rfl d_Mod_input_2 (fun r w1 hO => ?_)
          obtain ⟨rfl, rfl⟩ := hO
          show j_V g κ 0 0 5 [(0, .ref o), (1, .int (nI u)), (2, .int (nI i)), (3, .int (nI 0))] [.int (if 0 ≤ nI u ∧ nI u < nI cnt then (1 : Int32) else 0)] ([(o, .inr (6, mo a sz (nI n) ib (nI cnt) pl q wr z db)), (a 1, .inl (aI g, 2000, .inl (nf t))), (a 4, .inl (aI g, 12, .inl (F 4))), (a 6, .inl (aI g, 96, .inl (F 6))), (a 7, .inl (aI g, 96, .inl (F 7))), (a 8, .inl (aI g, 96, .inl (F 8)))])
          refine j_if_eqB (pc := 5) (tgt := 22) C d_Mod_input_5 rfl (fun c5 => ?_) (fun c5 => ?_)
          · skip
            exact absurd ⟨nI_pos' (by omega), nI_lt hu (by omega)⟩ c5
          · skip
            refine j_iload_n (pc := 8) C d_Mod_input_8 rfl 2 rfl ?_
            refine j_if_ltN (pc := 9) (tgt := 22) C (by omega) d_Mod_input_9 rfl ?_
            refine j_iload_n (pc := 12) C d_Mod_input_12 rfl 2 rfl ?_
            refine j_aload_n (pc := 13) C d_Mod_input_13 rfl 0 rfl ?_
            refine j_get (pc := 14) C F_Mod_26 0 rfl rfl d_Mod_input_14 ?_
            refine j_iload_n (pc := 17) C d_Mod_input_17 rfl 1 rfl ?_
            refine j_ialdN (pc := 18) C 2 1 rfl rfl (by omega) (by omega) d_Mod_input_18 ?_
            refine j_rwi (y := nI ((xZ t n (itN (rTx t n) u s2)).1)) (h2) ?_
            refine j_icmp_ltN (pc := 19) (tgt := 26) C (by omega) (by omega) d_Mod_input_19 rfl (fun c19 => ?_) (fun c19 => ?_)
            · skip
              refine j_bipush (pc := 26) (v := nI 8) C d_Mod_input_26 (by decide) ?_
              refine j_iload_n (pc := 28) C d_Mod_input_28 rfl 1 rfl ?_
              refine j_imulN (pc := 29) C d_Mod_input_29 ?_
              refine j_iload_n (pc := 30) C d_Mod_input_30 rfl 2 rfl ?_
              refine j_iaddN (pc := 31) C d_Mod_input_31 ?_
              refine j_istore (pc := 32) (lv' := [(4, .int (nI ((8 * u) + i))), (0, .ref o), (1, .int (nI u)), (2, .int (nI i)), (3, .int (nI 0))]) C d_Mod_input_32 (by decide) rfl ?_
              refine j_iload_n (pc := 34) C d_Mod_input_34 rfl 4 rfl ?_
              refine j_tableIn (pc := 35) (tgt := 68) C d_Mod_input_35 (by decide) (by decide) rfl (by decide) ?_
              refine j_aload_n (pc := 68) C d_Mod_input_68 rfl 1 rfl ?_
              refine j_get (pc := 69) C F_Mod_32 0 rfl rfl d_Mod_input_69 ?_
              refine j_iload (pc := 72) C d_Mod_input_72 0 rfl ?_
              refine j_ialdN (pc := 74) C 3 1 rfl rfl (by omega) (by omega) d_Mod_input_74 ?_
              refine j_rwi (y := nI a1) (by rw [k1]; exact congrArg (fun z => nI (pos z)) g1) ?_
              refine j_i2l (pc := 75) (v := lN a1) C d_Mod_input_75 (nI_l (by omega)) ?_
              exact hR.2.1 _ _ _ _ d_Mod_input_76 rfl (⟨by first | (exfalso; omega) | rw [inR_neg hu] | rw [inR_big hu] | (rw [inR_1 hu (by omega), if_neg (fun z => nlt0 (by assumption) z.1)]) | (rw [inR_1 hu (by omega), if_neg (fun z => nle (by assumption) z.2)]) | (rw [inR_in hu (by omega) hi (by omega)]; unfold inV; first | rw [sel_neg hq9] | rw [sel_big hq9] | (rw [g2, g1]; rfl)), rfl⟩)
            · skip
              refine j_ldc2 (pc := 22) C k_Mod_185 d_Mod_input_22 ?_
              exact hR.2.1 _ _ _ _ d_Mod_input_25 rfl (⟨by first | (exfalso; omega) | rw [inR_neg hu] | rw [inR_big hu] | (rw [inR_1 hu (by omega), if_neg (fun z => nlt0 (by assumption) z.1)]) | (rw [inR_1 hu (by omega), if_neg (fun z => nle (by assumption) z.2)]) | (rw [inR_in hu (by omega) hi (by omega)]; unfold inV; first | rw [sel_neg hq9] | rw [sel_big hq9] | (rw [g2, g1]; rfl)), rfl⟩)
        · skip
          show j_V g κ 0 0 0 [(0, .ref o), (1, .int (nI u)), (2, .int (nI i)), (3, .int (nI 1))] [] ([(o, .inr (6, mo a sz (nI n) ib (nI cnt) pl q wr z db)), (a 1, .inl (aI g, 2000, .inl (nf t))), (a 4, .inl (aI g, 12, .inl (F 4))), (a 6, .inl (aI g, 96, .inl (F 6))), (a 7, .inl (aI g, 96, .inl (F 7))), (a 8, .inl (aI g, 96, .inl (F 8)))])
          refine j_aload_n (pc := 0) C d_Mod_input_0 rfl 0 rfl ?_
          refine j_iload_n (pc := 1) C d_Mod_input_1 rfl 1 rfl ?_
          refine j_callV (pc := 2) (As := [.int (nI u)]) (rest := []) (wc := [(o, .inr (6, mo a sz (nI n) ib (nI cnt) pl q wr z db))]) (wr := [(a 1, .inl (aI g, 2000, .inl (nf t))), (a 4, .inl (aI g, 12, .inl (F 4))), (a 6, .inl (aI g, 96, .inl (F 6))), (a 7, .inl (aI g, 96, .inl (F 7))), (a 8, .inl (aI g, 96, .inl (F 8)))]) C (c_Mod_isTransaction (kl κ) g o a n cnt (nI u) sz ib pl db q wr z (by omega)) Y_Mod_isTransaction ml_Mod_187 im_Mod_isTransaction sl_Mod_isTransaction rfl ⟨by decide, by decide⟩ rfl (ci := 6) (q0 := 0) rfl rfl rfl (Nat.le_of_ble_eq_true rfl) (j_sb [0, 1, 2, 3, 4, 5] rfl rfl) rfl d_Mod_input_2 (fun r w1 hO => ?_)
          obtain ⟨rfl, rfl⟩ := hO
          show j_V g κ 0 0 5 [(0, .ref o), (1, .int (nI u)), (2, .int (nI i)), (3, .int (nI 1))] [.int (if 0 ≤ nI u ∧ nI u < nI cnt then (1 : Int32) else 0)] ([(o, .inr (6, mo a sz (nI n) ib (nI cnt) pl q wr z db)), (a 1, .inl (aI g, 2000, .inl (nf t))), (a 4, .inl (aI g, 12, .inl (F 4))), (a 6, .inl (aI g, 96, .inl (F 6))), (a 7, .inl (aI g, 96, .inl (F 7))), (a 8, .inl (aI g, 96, .inl (F 8)))])
          refine j_if_eqB (pc := 5) (tgt := 22) C d_Mod_input_5 rfl (fun c5 => ?_) (fun c5 => ?_)
          · skip
            exact absurd ⟨nI_pos' (by omega), nI_lt hu (by omega)⟩ c5
          · skip
            refine j_iload_n (pc := 8) C d_Mod_input_8 rfl 2 rfl ?_
            refine j_if_ltN (pc := 9) (tgt := 22) C (by omega) d_Mod_input_9 rfl ?_
            refine j_iload_n (pc := 12) C d_Mod_input_12 rfl 2 rfl ?_
            refine j_aload_n (pc := 13) C d_Mod_input_13 rfl 0 rfl ?_
            refine j_get (pc := 14) C F_Mod_26 0 rfl rfl d_Mod_input_14 ?_
            refine j_iload_n (pc := 17) C d_Mod_input_17 rfl 1 rfl ?_
            refine j_ialdN (pc := 18) C 2 1 rfl rfl (by omega) (by omega) d_Mod_input_18 ?_
            refine j_rwi (y := nI ((xZ t n (itN (rTx t n) u s2)).1)) (h2) ?_
            refine j_icmp_ltN (pc := 19) (tgt := 26) C (by omega) (by omega) d_Mod_input_19 rfl (fun c19 => ?_) (fun c19 => ?_)
            · skip
              refine j_bipush (pc := 26) (v := nI 8) C d_Mod_input_26 (by decide) ?_
              refine j_iload_n (pc := 28) C d_Mod_input_28 rfl 1 rfl ?_
              refine j_imulN (pc := 29) C d_Mod_input_29 ?_
              refine j_iload_n (pc := 30) C d_Mod_input_30 rfl 2 rfl ?_
              refine j_iaddN (pc := 31) C d_Mod_input_31 ?_
              refine j_istore (pc := 32) (lv' := [(4, .int (nI ((8 * u) + i))), (0, .ref o), (1, .int (nI u)), (2, .int (nI i)), (3, .int (nI 1))]) C d_Mod_input_32 (by decide) rfl ?_
              refine j_iload_n (pc := 34) C d_Mod_input_34 rfl 4 rfl ?_
              refine j_tableIn (pc := 35) (tgt := 77) C d_Mod_input_35 (by decide) (by decide) rfl (by decide) ?_
              refine j_aload_n (pc := 77) C d_Mod_input_77 rfl 1 rfl ?_
              refine j_aload_n (pc := 78) C d_Mod_input_78 rfl 1 rfl ?_
              refine j_get (pc := 79) C F_Mod_32 0 rfl rfl d_Mod_input_79 ?_
              refine j_iload (pc := 82) C d_Mod_input_82 0 rfl ?_
              refine j_ialdN (pc := 84) C 3 1 rfl rfl (by omega) (by omega) d_Mod_input_84 ?_
              refine j_rwi (y := nI a1) (by rw [k1]; exact congrArg (fun z => nI (pos z)) g1) ?_
              refine j_bipush (pc := 85) (v := nI 32) C d_Mod_input_85 (by decide) ?_
              refine j_iaddN (pc := 87) C d_Mod_input_87 ?_
              refine j_iconst (pc := 88) (v := nI 4) C d_Mod_input_88 (by decide) ?_
              refine j_callV (pc := 89) (As := [.int (nI (a1 + 32)), .int (nI 4)]) (rest := []) (wc := [(o, .inr (6, mo a sz (nI n) ib (nI cnt) pl q wr z db)), (a 1, .inl (aI g, 2000, .inl (nf t)))]) (wr := [(a 4, .inl (aI g, 12, .inl (F 4))), (a 6, .inl (aI g, 96, .inl (F 6))), (a 7, .inl (aI g, 96, .inl (F 7))), (a 8, .inl (aI g, 96, .inl (F 8)))]) C (c_Mod_lowAt (kl κ) g o a n (a1 + 32) 4 t sz ib (nI cnt) pl db q wr z hT (by omega) (by omega)) Y_Mod_lowAt ml_Mod_156 im_Mod_lowAt sl_Mod_lowAt rfl ⟨by decide, by decide⟩ rfl (ci := 6) (q0 := 0) rfl rfl rfl (Nat.le_of_ble_eq_true rfl) (j_sb [0, 1, 2, 3, 4, 5] rfl rfl) rfl d_Mod_input_89 (fun r w1 hO => ?_)
              obtain ⟨rfl, rfl⟩ := hO
              show j_V g κ 0 0 92 [(4, .int (nI ((8 * u) + i))), (0, .ref o), (1, .int (nI u)), (2, .int (nI i)), (3, .int (nI 1))] [.long (lN (lf t (a1 + 32) 4))] ([(o, .inr (6, mo a sz (nI n) ib (nI cnt) pl q wr z db)), (a 1, .inl (aI g, 2000, .inl (nf t))), (a 4, .inl (aI g, 12, .inl (F 4))), (a 6, .inl (aI g, 96, .inl (F 6))), (a 7, .inl (aI g, 96, .inl (F 7))), (a 8, .inl (aI g, 96, .inl (F 8)))])
              exact hR.2.1 _ _ _ _ d_Mod_input_92 rfl (⟨by first | (exfalso; omega) | rw [inR_neg hu] | rw [inR_big hu] | (rw [inR_1 hu (by omega), if_neg (fun z => nlt0 (by assumption) z.1)]) | (rw [inR_1 hu (by omega), if_neg (fun z => nle (by assumption) z.2)]) | (rw [inR_in hu (by omega) hi (by omega)]; unfold inV; first | rw [sel_neg hq9] | rw [sel_big hq9] | (rw [g2, g1]; rfl)), rfl⟩)
            · skip
              refine j_ldc2 (pc := 22) C k_Mod_185 d_Mod_input_22 ?_
              exact hR.2.1 _ _ _ _ d_Mod_input_25 rfl (⟨by first | (exfalso; omega) | rw [inR_neg hu] | rw [inR_big hu] | (rw [inR_1 hu (by omega), if_neg (fun z => nlt0 (by assumption) z.1)]) | (rw [inR_1 hu (by omega), if_neg (fun z => nle (by assumption) z.2)]) | (rw [inR_in hu (by omega) hi (by omega)]; unfold inV; first | rw [sel_neg hq9] | rw [sel_big hq9] | (rw [g2, g1]; rfl)), rfl⟩)
        · skip
          show j_V g κ 0 0 0 [(0, .ref o), (1, .int (nI u)), (2, .int (nI i)), (3, .int (nI 2))] [] ([(o, .inr (6, mo a sz (nI n) ib (nI cnt) pl q wr z db)), (a 1, .inl (aI g, 2000, .inl (nf t))), (a 4, .inl (aI g, 12, .inl (F 4))), (a 6, .inl (aI g, 96, .inl (F 6))), (a 7, .inl (aI g, 96, .inl (F 7))), (a 8, .inl (aI g, 96, .inl (F 8)))])
          refine j_aload_n (pc := 0) C d_Mod_input_0 rfl 0 rfl ?_
          refine j_iload_n (pc := 1) C d_Mod_input_1 rfl 1 rfl ?_
          refine j_callV (pc := 2) (As := [.int (nI u)]) (rest := []) (wc := [(o, .inr (6, mo a sz (nI n) ib (nI cnt) pl q wr z db))]) (wr := [(a 1, .inl (aI g, 2000, .inl (nf t))), (a 4, .inl (aI g, 12, .inl (F 4))), (a 6, .inl (aI g, 96, .inl (F 6))), (a 7, .inl (aI g, 96, .inl (F 7))), (a 8, .inl (aI g, 96, .inl (F 8)))]) C (c_Mod_isTransaction (kl κ) g o a n cnt (nI u) sz ib pl db q wr z (by omega)) Y_Mod_isTransaction ml_Mod_187 im_Mod_isTransaction sl_Mod_isTransaction rfl ⟨by decide, by decide⟩ rfl (ci := 6) (q0 := 0) rfl rfl rfl (Nat.le_of_ble_eq_true rfl) (j_sb [0, 1, 2, 3, 4, 5] rfl rfl) rfl d_Mod_input_2 (fun r w1 hO => ?_)
          obtain ⟨rfl, rfl⟩ := hO
          show j_V g κ 0 0 5 [(0, .ref o), (1, .int (nI u)), (2, .int (nI i)), (3, .int (nI 2))] [.int (if 0 ≤ nI u ∧ nI u < nI cnt then (1 : Int32) else 0)] ([(o, .inr (6, mo a sz (nI n) ib (nI cnt) pl q wr z db)), (a 1, .inl (aI g, 2000, .inl (nf t))), (a 4, .inl (aI g, 12, .inl (F 4))), (a 6, .inl (aI g, 96, .inl (F 6))), (a 7, .inl (aI g, 96, .inl (F 7))), (a 8, .inl (aI g, 96, .inl (F 8)))])
          refine j_if_eqB (pc := 5) (tgt := 22) C d_Mod_input_5 rfl (fun c5 => ?_) (fun c5 => ?_)
          · skip
            exact absurd ⟨nI_pos' (by omega), nI_lt hu (by omega)⟩ c5
          · skip
            refine j_iload_n (pc := 8) C d_Mod_input_8 rfl 2 rfl ?_
            refine j_if_ltN (pc := 9) (tgt := 22) C (by omega) d_Mod_input_9 rfl ?_
            refine j_iload_n (pc := 12) C d_Mod_input_12 rfl 2 rfl ?_
            refine j_aload_n (pc := 13) C d_Mod_input_13 rfl 0 rfl ?_
            refine j_get (pc := 14) C F_Mod_26 0 rfl rfl d_Mod_input_14 ?_
            refine j_iload_n (pc := 17) C d_Mod_input_17 rfl 1 rfl ?_
            refine j_ialdN (pc := 18) C 2 1 rfl rfl (by omega) (by omega) d_Mod_input_18 ?_
            refine j_rwi (y := nI ((xZ t n (itN (rTx t n) u s2)).1)) (h2) ?_
            refine j_icmp_ltN (pc := 19) (tgt := 26) C (by omega) (by omega) d_Mod_input_19 rfl (fun c19 => ?_) (fun c19 => ?_)
            · skip
              refine j_bipush (pc := 26) (v := nI 8) C d_Mod_input_26 (by decide) ?_
              refine j_iload_n (pc := 28) C d_Mod_input_28 rfl 1 rfl ?_
              refine j_imulN (pc := 29) C d_Mod_input_29 ?_
              refine j_iload_n (pc := 30) C d_Mod_input_30 rfl 2 rfl ?_
              refine j_iaddN (pc := 31) C d_Mod_input_31 ?_
              refine j_istore (pc := 32) (lv' := [(4, .int (nI ((8 * u) + i))), (0, .ref o), (1, .int (nI u)), (2, .int (nI i)), (3, .int (nI 2))]) C d_Mod_input_32 (by decide) rfl ?_
              refine j_iload_n (pc := 34) C d_Mod_input_34 rfl 4 rfl ?_
              refine j_tableIn (pc := 35) (tgt := 93) C d_Mod_input_35 (by decide) (by decide) rfl (by decide) ?_
              refine j_aload_n (pc := 93) C d_Mod_input_93 rfl 1 rfl ?_
              refine j_get (pc := 94) C F_Mod_35 0 rfl rfl d_Mod_input_94 ?_
              refine j_iload (pc := 97) C d_Mod_input_97 0 rfl ?_
              refine j_ialdN (pc := 99) C 4 1 rfl rfl (by omega) (by omega) d_Mod_input_99 ?_
              refine j_rwi (y := nI q1) (by rw [k2]; exact congrArg (fun z => nI (pos z)) g2) ?_
              refine j_i2l (pc := 100) (v := lN q1) C d_Mod_input_100 (nI_l (by omega)) ?_
              exact hR.2.1 _ _ _ _ d_Mod_input_101 rfl (⟨by first | (exfalso; omega) | rw [inR_neg hu] | rw [inR_big hu] | (rw [inR_1 hu (by omega), if_neg (fun z => nlt0 (by assumption) z.1)]) | (rw [inR_1 hu (by omega), if_neg (fun z => nle (by assumption) z.2)]) | (rw [inR_in hu (by omega) hi (by omega)]; unfold inV; first | rw [sel_neg hq9] | rw [sel_big hq9] | (rw [g2, g1]; rfl)), rfl⟩)
            · skip
              refine j_ldc2 (pc := 22) C k_Mod_185 d_Mod_input_22 ?_
              exact hR.2.1 _ _ _ _ d_Mod_input_25 rfl (⟨by first | (exfalso; omega) | rw [inR_neg hu] | rw [inR_big hu] | (rw [inR_1 hu (by omega), if_neg (fun z => nlt0 (by assumption) z.1)]) | (rw [inR_1 hu (by omega), if_neg (fun z => nle (by assumption) z.2)]) | (rw [inR_in hu (by omega) hi (by omega)]; unfold inV; first | rw [sel_neg hq9] | rw [sel_big hq9] | (rw [g2, g1]; rfl)), rfl⟩)
        · skip
          show j_V g κ 0 0 0 [(0, .ref o), (1, .int (nI u)), (2, .int (nI i)), (3, .int (nI 3))] [] ([(o, .inr (6, mo a sz (nI n) ib (nI cnt) pl q wr z db)), (a 1, .inl (aI g, 2000, .inl (nf t))), (a 4, .inl (aI g, 12, .inl (F 4))), (a 6, .inl (aI g, 96, .inl (F 6))), (a 7, .inl (aI g, 96, .inl (F 7))), (a 8, .inl (aI g, 96, .inl (F 8)))])
          refine j_aload_n (pc := 0) C d_Mod_input_0 rfl 0 rfl ?_
          refine j_iload_n (pc := 1) C d_Mod_input_1 rfl 1 rfl ?_
          refine j_callV (pc := 2) (As := [.int (nI u)]) (rest := []) (wc := [(o, .inr (6, mo a sz (nI n) ib (nI cnt) pl q wr z db))]) (wr := [(a 1, .inl (aI g, 2000, .inl (nf t))), (a 4, .inl (aI g, 12, .inl (F 4))), (a 6, .inl (aI g, 96, .inl (F 6))), (a 7, .inl (aI g, 96, .inl (F 7))), (a 8, .inl (aI g, 96, .inl (F 8)))]) C (c_Mod_isTransaction (kl κ) g o a n cnt (nI u) sz ib pl db q wr z (by omega)) Y_Mod_isTransaction ml_Mod_187 im_Mod_isTransaction sl_Mod_isTransaction rfl ⟨by decide, by decide⟩ rfl (ci := 6) (q0 := 0) rfl rfl rfl (Nat.le_of_ble_eq_true rfl) (j_sb [0, 1, 2, 3, 4, 5] rfl rfl) rfl d_Mod_input_2 (fun r w1 hO => ?_)
          obtain ⟨rfl, rfl⟩ := hO
          show j_V g κ 0 0 5 [(0, .ref o), (1, .int (nI u)), (2, .int (nI i)), (3, .int (nI 3))] [.int (if 0 ≤ nI u ∧ nI u < nI cnt then (1 : Int32) else 0)] ([(o, .inr (6, mo a sz (nI n) ib (nI cnt) pl q wr z db)), (a 1, .inl (aI g, 2000, .inl (nf t))), (a 4, .inl (aI g, 12, .inl (F 4))), (a 6, .inl (aI g, 96, .inl (F 6))), (a 7, .inl (aI g, 96, .inl (F 7))), (a 8, .inl (aI g, 96, .inl (F 8)))])
          refine j_if_eqB (pc := 5) (tgt := 22) C d_Mod_input_5 rfl (fun c5 => ?_) (fun c5 => ?_)
          · skip
            exact absurd ⟨nI_pos' (by omega), nI_lt hu (by omega)⟩ c5
          · skip
            refine j_iload_n (pc := 8) C d_Mod_input_8 rfl 2 rfl ?_
            refine j_if_ltN (pc := 9) (tgt := 22) C (by omega) d_Mod_input_9 rfl ?_
            refine j_iload_n (pc := 12) C d_Mod_input_12 rfl 2 rfl ?_
            refine j_aload_n (pc := 13) C d_Mod_input_13 rfl 0 rfl ?_
            refine j_get (pc := 14) C F_Mod_26 0 rfl rfl d_Mod_input_14 ?_
            refine j_iload_n (pc := 17) C d_Mod_input_17 rfl 1 rfl ?_
            refine j_ialdN (pc := 18) C 2 1 rfl rfl (by omega) (by omega) d_Mod_input_18 ?_
            refine j_rwi (y := nI ((xZ t n (itN (rTx t n) u s2)).1)) (h2) ?_
            refine j_icmp_ltN (pc := 19) (tgt := 26) C (by omega) (by omega) d_Mod_input_19 rfl (fun c19 => ?_) (fun c19 => ?_)
            · skip
              refine j_bipush (pc := 26) (v := nI 8) C d_Mod_input_26 (by decide) ?_
              refine j_iload_n (pc := 28) C d_Mod_input_28 rfl 1 rfl ?_
              refine j_imulN (pc := 29) C d_Mod_input_29 ?_
              refine j_iload_n (pc := 30) C d_Mod_input_30 rfl 2 rfl ?_
              refine j_iaddN (pc := 31) C d_Mod_input_31 ?_
              refine j_istore (pc := 32) (lv' := [(4, .int (nI ((8 * u) + i))), (0, .ref o), (1, .int (nI u)), (2, .int (nI i)), (3, .int (nI 3))]) C d_Mod_input_32 (by decide) rfl ?_
              refine j_iload_n (pc := 34) C d_Mod_input_34 rfl 4 rfl ?_
              refine j_tableIn (pc := 35) (tgt := 102) C d_Mod_input_35 (by decide) (by decide) rfl (by decide) ?_
              refine j_aload_n (pc := 102) C d_Mod_input_102 rfl 1 rfl ?_
              refine j_get (pc := 103) C F_Mod_38 0 rfl rfl d_Mod_input_103 ?_
              refine j_iload (pc := 106) C d_Mod_input_106 0 rfl ?_
              refine j_ialdN (pc := 108) C 5 1 rfl rfl (by omega) (by omega) d_Mod_input_108 ?_
              refine j_rwi (y := nI ((inZ t n (xI t n (itN (rTx t n) u s2) i)).1)) (k3) ?_
              refine j_i2l (pc := 109) (v := lN ((inZ t n (xI t n (itN (rTx t n) u s2) i)).1)) C d_Mod_input_109 (nI_l (by omega)) ?_
              exact hR.2.1 _ _ _ _ d_Mod_input_110 rfl (⟨by first | (exfalso; omega) | rw [inR_neg hu] | rw [inR_big hu] | (rw [inR_1 hu (by omega), if_neg (fun z => nlt0 (by assumption) z.1)]) | (rw [inR_1 hu (by omega), if_neg (fun z => nle (by assumption) z.2)]) | (rw [inR_in hu (by omega) hi (by omega)]; unfold inV; first | rw [sel_neg hq9] | rw [sel_big hq9] | (rw [g2, g1]; rfl)), rfl⟩)
            · skip
              refine j_ldc2 (pc := 22) C k_Mod_185 d_Mod_input_22 ?_
              exact hR.2.1 _ _ _ _ d_Mod_input_25 rfl (⟨by first | (exfalso; omega) | rw [inR_neg hu] | rw [inR_big hu] | (rw [inR_1 hu (by omega), if_neg (fun z => nlt0 (by assumption) z.1)]) | (rw [inR_1 hu (by omega), if_neg (fun z => nle (by assumption) z.2)]) | (rw [inR_in hu (by omega) hi (by omega)]; unfold inV; first | rw [sel_neg hq9] | rw [sel_big hq9] | (rw [g2, g1]; rfl)), rfl⟩)
        · skip
          show j_V g κ 0 0 0 [(0, .ref o), (1, .int (nI u)), (2, .int (nI i)), (3, .int (nI 4))] [] ([(o, .inr (6, mo a sz (nI n) ib (nI cnt) pl q wr z db)), (a 1, .inl (aI g, 2000, .inl (nf t))), (a 4, .inl (aI g, 12, .inl (F 4))), (a 6, .inl (aI g, 96, .inl (F 6))), (a 7, .inl (aI g, 96, .inl (F 7))), (a 8, .inl (aI g, 96, .inl (F 8)))])
          refine j_aload_n (pc := 0) C d_Mod_input_0 rfl 0 rfl ?_
          refine j_iload_n (pc := 1) C d_Mod_input_1 rfl 1 rfl ?_
          refine j_callV (pc := 2) (As := [.int (nI u)]) (rest := []) (wc := [(o, .inr (6, mo a sz (nI n) ib (nI cnt) pl q wr z db))]) (wr := [(a 1, .inl (aI g, 2000, .inl (nf t))), (a 4, .inl (aI g, 12, .inl (F 4))), (a 6, .inl (aI g, 96, .inl (F 6))), (a 7, .inl (aI g, 96, .inl (F 7))), (a 8, .inl (aI g, 96, .inl (F 8)))]) C (c_Mod_isTransaction (kl κ) g o a n cnt (nI u) sz ib pl db q wr z (by omega)) Y_Mod_isTransaction ml_Mod_187 im_Mod_isTransaction sl_Mod_isTransaction rfl ⟨by decide, by decide⟩ rfl (ci := 6) (q0 := 0) rfl rfl rfl (Nat.le_of_ble_eq_true rfl) (j_sb [0, 1, 2, 3, 4, 5] rfl rfl) rfl d_Mod_input_2 (fun r w1 hO => ?_)
          obtain ⟨rfl, rfl⟩ := hO
          show j_V g κ 0 0 5 [(0, .ref o), (1, .int (nI u)), (2, .int (nI i)), (3, .int (nI 4))] [.int (if 0 ≤ nI u ∧ nI u < nI cnt then (1 : Int32) else 0)] ([(o, .inr (6, mo a sz (nI n) ib (nI cnt) pl q wr z db)), (a 1, .inl (aI g, 2000, .inl (nf t))), (a 4, .inl (aI g, 12, .inl (F 4))), (a 6, .inl (aI g, 96, .inl (F 6))), (a 7, .inl (aI g, 96, .inl (F 7))), (a 8, .inl (aI g, 96, .inl (F 8)))])
          refine j_if_eqB (pc := 5) (tgt := 22) C d_Mod_input_5 rfl (fun c5 => ?_) (fun c5 => ?_)
          · skip
            exact absurd ⟨nI_pos' (by omega), nI_lt hu (by omega)⟩ c5
          · skip
            refine j_iload_n (pc := 8) C d_Mod_input_8 rfl 2 rfl ?_
            refine j_if_ltN (pc := 9) (tgt := 22) C (by omega) d_Mod_input_9 rfl ?_
            refine j_iload_n (pc := 12) C d_Mod_input_12 rfl 2 rfl ?_
            refine j_aload_n (pc := 13) C d_Mod_input_13 rfl 0 rfl ?_
            refine j_get (pc := 14) C F_Mod_26 0 rfl rfl d_Mod_input_14 ?_
            refine j_iload_n (pc := 17) C d_Mod_input_17 rfl 1 rfl ?_
            refine j_ialdN (pc := 18) C 2 1 rfl rfl (by omega) (by omega) d_Mod_input_18 ?_
            refine j_rwi (y := nI ((xZ t n (itN (rTx t n) u s2)).1)) (h2) ?_
            refine j_icmp_ltN (pc := 19) (tgt := 26) C (by omega) (by omega) d_Mod_input_19 rfl (fun c19 => ?_) (fun c19 => ?_)
            · skip
              refine j_bipush (pc := 26) (v := nI 8) C d_Mod_input_26 (by decide) ?_
              refine j_iload_n (pc := 28) C d_Mod_input_28 rfl 1 rfl ?_
              refine j_imulN (pc := 29) C d_Mod_input_29 ?_
              refine j_iload_n (pc := 30) C d_Mod_input_30 rfl 2 rfl ?_
              refine j_iaddN (pc := 31) C d_Mod_input_31 ?_
              refine j_istore (pc := 32) (lv' := [(4, .int (nI ((8 * u) + i))), (0, .ref o), (1, .int (nI u)), (2, .int (nI i)), (3, .int (nI 4))]) C d_Mod_input_32 (by decide) rfl ?_
              refine j_iload_n (pc := 34) C d_Mod_input_34 rfl 4 rfl ?_
              refine j_tableIn (pc := 35) (tgt := 111) C d_Mod_input_35 (by decide) (by decide) rfl (by decide) ?_
              refine j_aload_n (pc := 111) C d_Mod_input_111 rfl 1 rfl ?_
              refine j_aload_n (pc := 112) C d_Mod_input_112 rfl 1 rfl ?_
              refine j_get (pc := 113) C F_Mod_35 0 rfl rfl d_Mod_input_113 ?_
              refine j_iload (pc := 116) C d_Mod_input_116 0 rfl ?_
              refine j_ialdN (pc := 118) C 4 1 rfl rfl (by omega) (by omega) d_Mod_input_118 ?_
              refine j_rwi (y := nI q1) (by rw [k2]; exact congrArg (fun z => nI (pos z)) g2) ?_
              refine j_aload_n (pc := 119) C d_Mod_input_119 rfl 1 rfl ?_
              refine j_get (pc := 120) C F_Mod_38 0 rfl rfl d_Mod_input_120 ?_
              refine j_iload (pc := 123) C d_Mod_input_123 0 rfl ?_
              refine j_ialdN (pc := 125) C 5 1 rfl rfl (by omega) (by omega) d_Mod_input_125 ?_
              refine j_rwi (y := nI ((inZ t n (xI t n (itN (rTx t n) u s2) i)).1)) (k3) ?_
              refine j_iaddN (pc := 126) C d_Mod_input_126 ?_
              refine j_iconst (pc := 127) (v := nI 4) C d_Mod_input_127 (by decide) ?_
              refine j_callV (pc := 128) (As := [.int (nI (q1 + ((inZ t n (xI t n (itN (rTx t n) u s2) i)).1))), .int (nI 4)]) (rest := []) (wc := [(o, .inr (6, mo a sz (nI n) ib (nI cnt) pl q wr z db)), (a 1, .inl (aI g, 2000, .inl (nf t)))]) (wr := [(a 4, .inl (aI g, 12, .inl (F 4))), (a 6, .inl (aI g, 96, .inl (F 6))), (a 7, .inl (aI g, 96, .inl (F 7))), (a 8, .inl (aI g, 96, .inl (F 8)))]) C (c_Mod_lowAt (kl κ) g o a n (q1 + ((inZ t n (xI t n (itN (rTx t n) u s2) i)).1)) 4 t sz ib (nI cnt) pl db q wr z hT (by omega) (by omega)) Y_Mod_lowAt ml_Mod_156 im_Mod_lowAt sl_Mod_lowAt rfl ⟨by decide, by decide⟩ rfl (ci := 6) (q0 := 0) rfl rfl rfl (Nat.le_of_ble_eq_true rfl) (j_sb [0, 1, 2, 3, 4, 5] rfl rfl) rfl d_Mod_input_128 (fun r w1 hO => ?_)
              obtain ⟨rfl, rfl⟩ := hO
              show j_V g κ 0 0 131 [(4, .int (nI ((8 * u) + i))), (0, .ref o), (1, .int (nI u)), (2, .int (nI i)), (3, .int (nI 4))] [.long (lN (lf t (q1 + ((inZ t n (xI t n (itN (rTx t n) u s2) i)).1)) 4))] ([(o, .inr (6, mo a sz (nI n) ib (nI cnt) pl q wr z db)), (a 1, .inl (aI g, 2000, .inl (nf t))), (a 4, .inl (aI g, 12, .inl (F 4))), (a 6, .inl (aI g, 96, .inl (F 6))), (a 7, .inl (aI g, 96, .inl (F 7))), (a 8, .inl (aI g, 96, .inl (F 8)))])
              exact hR.2.1 _ _ _ _ d_Mod_input_131 rfl (⟨by first | (exfalso; omega) | rw [inR_neg hu] | rw [inR_big hu] | (rw [inR_1 hu (by omega), if_neg (fun z => nlt0 (by assumption) z.1)]) | (rw [inR_1 hu (by omega), if_neg (fun z => nle (by assumption) z.2)]) | (rw [inR_in hu (by omega) hi (by omega)]; unfold inV; first | rw [sel_neg hq9] | rw [sel_big hq9] | (rw [g2, g1]; rfl)), rfl⟩)
            · skip
              refine j_ldc2 (pc := 22) C k_Mod_185 d_Mod_input_22 ?_
              exact hR.2.1 _ _ _ _ d_Mod_input_25 rfl (⟨by first | (exfalso; omega) | rw [inR_neg hu] | rw [inR_big hu] | (rw [inR_1 hu (by omega), if_neg (fun z => nlt0 (by assumption) z.1)]) | (rw [inR_1 hu (by omega), if_neg (fun z => nle (by assumption) z.2)]) | (rw [inR_in hu (by omega) hi (by omega)]; unfold inV; first | rw [sel_neg hq9] | rw [sel_big hq9] | (rw [g2, g1]; rfl)), rfl⟩)
abbrev rm_Mod_output : Room := { frames := 1, cells := 0, slots := 0, locals := 25 }
set_option maxHeartbeats 4000000 in
set_option maxRecDepth 100000 in
theorem c_Mod_output (l : Launch) (g : JX) (o : Nat) (a : Nat → Nat) (n cnt : Nat) (t : Nat → Nat) (s2 : RS) (F : Nat → Nat → Int32) (sz ib pl db q wr z : Int32) (tt i0 x : Int32) (hn : n ≤ 2000) (hT : ∀ j, t j < 256) (hc : cnt ≤ 12) (hA : MAll t n s2 cnt F) (hE : 0 < cnt → ∃ e0, itN (rTx t n) cnt s2 = .inl e0) : j_Ct l y_Mod_output b_Mod_output 5 (some .long) rm_Mod_output g ([(o, .inr (6, mo a sz (nI n) ib (nI cnt) pl q wr z db)), (a 1, .inl (aI g, 2000, .inl (nf t))), (a 5, .inl (aI g, 12, .inl (F 5))), (a 9, .inl (aI g, 96, .inl (F 9))), (a 10, .inl (aI g, 96, .inl (F 10))), (a 11, .inl (aI g, 96, .inl (F 11)))]) [.ref o, .int tt, .int i0, .int x] (fun r w => r = some (.long (outR t n s2 cnt tt i0 x)) ∧ w = [(o, .inr (6, mo a sz (nI n) ib (nI cnt) pl q wr z db)), (a 1, .inl (aI g, 2000, .inl (nf t))), (a 5, .inl (aI g, 12, .inl (F 5))), (a 9, .inl (aI g, 96, .inl (F 9))), (a 10, .inl (aI g, 96, .inl (F 10))), (a 11, .inl (aI g, 96, .inl (F 11)))]) 0 0 := by
  refine j_ct (by decide) (Nat.le_of_ble_eq_true rfl) (fun κ hkl C hR hI => ?_)
  show j_V g κ 0 0 0 [(0, .ref o), (1, .int tt), (2, .int i0), (3, .int x)] [] ([(o, .inr (6, mo a sz (nI n) ib (nI cnt) pl q wr z db)), (a 1, .inl (aI g, 2000, .inl (nf t))), (a 5, .inl (aI g, 12, .inl (F 5))), (a 9, .inl (aI g, 96, .inl (F 9))), (a 10, .inl (aI g, 96, .inl (F 10))), (a 11, .inl (aI g, 96, .inl (F 11)))])
  rcases pk_ix tt (n := cnt) (by omega) with hu | hu | ⟨u, hu, rfl⟩
  · skip
    show j_V g κ 0 0 0 [(0, .ref o), (1, .int tt), (2, .int i0), (3, .int x)] [] ([(o, .inr (6, mo a sz (nI n) ib (nI cnt) pl q wr z db)), (a 1, .inl (aI g, 2000, .inl (nf t))), (a 5, .inl (aI g, 12, .inl (F 5))), (a 9, .inl (aI g, 96, .inl (F 9))), (a 10, .inl (aI g, 96, .inl (F 10))), (a 11, .inl (aI g, 96, .inl (F 11)))])
    refine j_aload_n (pc := 0) C d_Mod_output_0 rfl 0 rfl ?_
    refine j_iload_n (pc := 1) C d_Mod_output_1 rfl 1 rfl ?_
    refine j_callV (pc := 2) (As := [.int tt]) (rest := []) (wc := [(o, .inr (6, mo a sz (nI n) ib (nI cnt) pl q wr z db))]) (wr := [(a 1, .inl (aI g, 2000, .inl (nf t))), (a 5, .inl (aI g, 12, .inl (F 5))), (a 9, .inl (aI g, 96, .inl (F 9))), (a 10, .inl (aI g, 96, .inl (F 10))), (a 11, .inl (aI g, 96, .inl (F 11)))]) C (c_Mod_isTransaction (kl κ) g o a n cnt tt sz ib pl db q wr z (by omega)) Y_Mod_isTransaction ml_Mod_187 im_Mod_isTransaction sl_Mod_isTransaction rfl ⟨by decide, by decide⟩ rfl (ci := 6) (q0 := 0) rfl rfl rfl (Nat.le_of_ble_eq_true rfl) (j_sb [0, 1, 2, 3, 4, 5] rfl rfl) rfl d_Mod_output_2 (fun r w1 hO => ?_)
    obtain ⟨rfl, rfl⟩ := hO
    show j_V g κ 0 0 5 [(0, .ref o), (1, .int tt), (2, .int i0), (3, .int x)] [.int (if 0 ≤ tt ∧ tt < nI cnt then (1 : Int32) else 0)] ([(o, .inr (6, mo a sz (nI n) ib (nI cnt) pl q wr z db)), (a 1, .inl (aI g, 2000, .inl (nf t))), (a 5, .inl (aI g, 12, .inl (F 5))), (a 9, .inl (aI g, 96, .inl (F 9))), (a 10, .inl (aI g, 96, .inl (F 10))), (a 11, .inl (aI g, 96, .inl (F 11)))])
    refine j_if_eqB (pc := 5) (tgt := 22) C d_Mod_output_5 rfl (fun c5 => ?_) (fun c5 => ?_)
    · skip
      refine j_ldc2 (pc := 22) C k_Mod_185 d_Mod_output_22 ?_
      exact hR.2.1 _ _ _ _ d_Mod_output_25 rfl (⟨by first | (exfalso; omega) | rw [outR_neg hu] | rw [outR_big hu] | (rw [outR_1 hu (by omega), if_neg (fun z => nlt0 (by assumption) z.1)]) | (rw [outR_1 hu (by omega), if_neg (fun z => nle (by assumption) z.2)]) | (rw [outR_in hu (by omega) hi (by omega)]; unfold outV; first | rw [sel_neg hq9] | rw [sel_big hq9] | (rw [g2, g1]; rfl)), rfl⟩)
    · skip
      first | exact absurd c5.1 (nlt0 hu) | exact absurd c5.2 (nle hu)
  · skip
    show j_V g κ 0 0 0 [(0, .ref o), (1, .int tt), (2, .int i0), (3, .int x)] [] ([(o, .inr (6, mo a sz (nI n) ib (nI cnt) pl q wr z db)), (a 1, .inl (aI g, 2000, .inl (nf t))), (a 5, .inl (aI g, 12, .inl (F 5))), (a 9, .inl (aI g, 96, .inl (F 9))), (a 10, .inl (aI g, 96, .inl (F 10))), (a 11, .inl (aI g, 96, .inl (F 11)))])
    refine j_aload_n (pc := 0) C d_Mod_output_0 rfl 0 rfl ?_
    refine j_iload_n (pc := 1) C d_Mod_output_1 rfl 1 rfl ?_
    refine j_callV (pc := 2) (As := [.int tt]) (rest := []) (wc := [(o, .inr (6, mo a sz (nI n) ib (nI cnt) pl q wr z db))]) (wr := [(a 1, .inl (aI g, 2000, .inl (nf t))), (a 5, .inl (aI g, 12, .inl (F 5))), (a 9, .inl (aI g, 96, .inl (F 9))), (a 10, .inl (aI g, 96, .inl (F 10))), (a 11, .inl (aI g, 96, .inl (F 11)))]) C (c_Mod_isTransaction (kl κ) g o a n cnt tt sz ib pl db q wr z (by omega)) Y_Mod_isTransaction ml_Mod_187 im_Mod_isTransaction sl_Mod_isTransaction rfl ⟨by decide, by decide⟩ rfl (ci := 6) (q0 := 0) rfl rfl rfl (Nat.le_of_ble_eq_true rfl) (j_sb [0, 1, 2, 3, 4, 5] rfl rfl) rfl d_Mod_output_2 (fun r w1 hO => ?_)
    obtain ⟨rfl, rfl⟩ := hO
    show j_V g κ 0 0 5 [(0, .ref o), (1, .int tt), (2, .int i0), (3, .int x)] [.int (if 0 ≤ tt ∧ tt < nI cnt then (1 : Int32) else 0)] ([(o, .inr (6, mo a sz (nI n) ib (nI cnt) pl q wr z db)), (a 1, .inl (aI g, 2000, .inl (nf t))), (a 5, .inl (aI g, 12, .inl (F 5))), (a 9, .inl (aI g, 96, .inl (F 9))), (a 10, .inl (aI g, 96, .inl (F 10))), (a 11, .inl (aI g, 96, .inl (F 11)))])
    refine j_if_eqB (pc := 5) (tgt := 22) C d_Mod_output_5 rfl (fun c5 => ?_) (fun c5 => ?_)
    · skip
      refine j_ldc2 (pc := 22) C k_Mod_185 d_Mod_output_22 ?_
      exact hR.2.1 _ _ _ _ d_Mod_output_25 rfl (⟨by first | (exfalso; omega) | rw [outR_neg hu] | rw [outR_big hu] | (rw [outR_1 hu (by omega), if_neg (fun z => nlt0 (by assumption) z.1)]) | (rw [outR_1 hu (by omega), if_neg (fun z => nle (by assumption) z.2)]) | (rw [outR_in hu (by omega) hi (by omega)]; unfold outV; first | rw [sel_neg hq9] | rw [sel_big hq9] | (rw [g2, g1]; rfl)), rfl⟩)
    · skip
      first | exact absurd c5.1 (nlt0 hu) | exact absurd c5.2 (nle hu)
  · skip
    obtain ⟨e0, hE0⟩ := hE (by omega)
    obtain ⟨b, e, hb, he, hbe, hen, he4⟩ := tx_st hE0 hu
    obtain ⟨h0, h1, h2, h3, hHi, hHo⟩ := hA u hu e he
    have hz8 : (xZ t n (itN (rTx t n) u s2)).1 ≤ 8 := rSize_le
    have hy8 : (xY t n (itN (rTx t n) u s2)).1 ≤ 8 := rSize_le
    rcases pk_ix i0 (n := (xY t n (itN (rTx t n) u s2)).1) (by omega) with hi | hi | ⟨i, hi, rfl⟩
    · skip
      show j_V g κ 0 0 0 [(0, .ref o), (1, .int (nI u)), (2, .int i0), (3, .int x)] [] ([(o, .inr (6, mo a sz (nI n) ib (nI cnt) pl q wr z db)), (a 1, .inl (aI g, 2000, .inl (nf t))), (a 5, .inl (aI g, 12, .inl (F 5))), (a 9, .inl (aI g, 96, .inl (F 9))), (a 10, .inl (aI g, 96, .inl (F 10))), (a 11, .inl (aI g, 96, .inl (F 11)))])
      refine j_aload_n (pc := 0) C d_Mod_output_0 rfl 0 rfl ?_
      refine j_iload_n (pc := 1) C d_Mod_output_1 rfl 1 rfl ?_
      refine j_callV (pc := 2) (As := [.int (nI u)]) (rest := []) (wc := [(o, .inr (6, mo a sz (nI n) ib (nI cnt) pl q wr z db))]) (wr := [(a 1, .inl (aI g, 2000, .inl (nf t))), (a 5, .inl (aI g, 12, .inl (F 5))), (a 9, .inl (aI g, 96, .inl (F 9))), (a 10, .inl (aI g, 96, .inl (F 10))), (a 11, .inl (aI g, 96, .inl (F 11)))]) C (c_Mod_isTransaction (kl κ) g o a n cnt (nI u) sz ib pl db q wr z (by omega)) Y_Mod_isTransaction ml_Mod_187 im_Mod_isTransaction sl_Mod_isTransaction rfl ⟨by decide, by decide⟩ rfl (ci := 6) (q0 := 0) rfl rfl rfl (Nat.le_of_ble_eq_true rfl) (j_sb [0, 1, 2, 3, 4, 5] rfl rfl) rfl d_Mod_output_2 (fun r w1 hO => ?_)
      obtain ⟨rfl, rfl⟩ := hO
      show j_V g κ 0 0 5 [(0, .ref o), (1, .int (nI u)), (2, .int i0), (3, .int x)] [.int (if 0 ≤ nI u ∧ nI u < nI cnt then (1 : Int32) else 0)] ([(o, .inr (6, mo a sz (nI n) ib (nI cnt) pl q wr z db)), (a 1, .inl (aI g, 2000, .inl (nf t))), (a 5, .inl (aI g, 12, .inl (F 5))), (a 9, .inl (aI g, 96, .inl (F 9))), (a 10, .inl (aI g, 96, .inl (F 10))), (a 11, .inl (aI g, 96, .inl (F 11)))])
      refine j_if_eqB (pc := 5) (tgt := 22) C d_Mod_output_5 rfl (fun c5 => ?_) (fun c5 => ?_)
      · skip
        exact absurd ⟨nI_pos' (by omega), nI_lt hu (by omega)⟩ c5
      · skip
        refine j_iload_n (pc := 8) C d_Mod_output_8 rfl 2 rfl ?_
        refine j_if_lt (pc := 9) (tgt := 22) C d_Mod_output_9 rfl (fun c9 => ?_) (fun c9 => ?_)
        · skip
          refine j_ldc2 (pc := 22) C k_Mod_185 d_Mod_output_22 ?_
          exact hR.2.1 _ _ _ _ d_Mod_output_25 rfl (⟨by first | (exfalso; omega) | rw [outR_neg hu] | rw [outR_big hu] | (rw [outR_1 hu (by omega), if_neg (fun z => nlt0 (by assumption) z.1)]) | (rw [outR_1 hu (by omega), if_neg (fun z => nle (by assumption) z.2)]) | (rw [outR_in hu (by omega) hi (by omega)]; unfold outV; first | rw [sel_neg hq9] | rw [sel_big hq9] | (rw [g2, g1]; rfl)), rfl⟩)
        · skip
          refine j_iload_n (pc := 12) C d_Mod_output_12 rfl 2 rfl ?_
          refine j_aload_n (pc := 13) C d_Mod_output_13 rfl 0 rfl ?_
          refine j_get (pc := 14) C F_Mod_29 0 rfl rfl d_Mod_output_14 ?_
          refine j_iload_n (pc := 17) C d_Mod_output_17 rfl 1 rfl ?_
          refine j_ialdN (pc := 18) C 2 1 rfl rfl (by omega) (by omega) d_Mod_output_18 ?_
          refine j_rwi (y := nI ((xY t n (itN (rTx t n) u s2)).1)) (h3) ?_
          refine j_icmp_lt (pc := 19) (tgt := 26) C d_Mod_output_19 rfl (fun c19 => ?_) (fun c19 => ?_)
          · skip
            first | exact absurd hi c9 | exact absurd c19 (nle hi)
          · skip
            refine j_ldc2 (pc := 22) C k_Mod_185 d_Mod_output_22 ?_
            exact hR.2.1 _ _ _ _ d_Mod_output_25 rfl (⟨by first | (exfalso; omega) | rw [outR_neg hu] | rw [outR_big hu] | (rw [outR_1 hu (by omega), if_neg (fun z => nlt0 (by assumption) z.1)]) | (rw [outR_1 hu (by omega), if_neg (fun z => nle (by assumption) z.2)]) | (rw [outR_in hu (by omega) hi (by omega)]; unfold outV; first | rw [sel_neg hq9] | rw [sel_big hq9] | (rw [g2, g1]; rfl)), rfl⟩)
    · skip
      show j_V g κ 0 0 0 [(0, .ref o), (1, .int (nI u)), (2, .int i0), (3, .int x)] [] ([(o, .inr (6, mo a sz (nI n) ib (nI cnt) pl q wr z db)), (a 1, .inl (aI g, 2000, .inl (nf t))), (a 5, .inl (aI g, 12, .inl (F 5))), (a 9, .inl (aI g, 96, .inl (F 9))), (a 10, .inl (aI g, 96, .inl (F 10))), (a 11, .inl (aI g, 96, .inl (F 11)))])
      refine j_aload_n (pc := 0) C d_Mod_output_0 rfl 0 rfl ?_
      refine j_iload_n (pc := 1) C d_Mod_output_1 rfl 1 rfl ?_
      refine j_callV (pc := 2) (As := [.int (nI u)]) (rest := []) (wc := [(o, .inr (6, mo a sz (nI n) ib (nI cnt) pl q wr z db))]) (wr := [(a 1, .inl (aI g, 2000, .inl (nf t))), (a 5, .inl (aI g, 12, .inl (F 5))), (a 9, .inl (aI g, 96, .inl (F 9))), (a 10, .inl (aI g, 96, .inl (F 10))), (a 11, .inl (aI g, 96, .inl (F 11)))]) C (c_Mod_isTransaction (kl κ) g o a n cnt (nI u) sz ib pl db q wr z (by omega)) Y_Mod_isTransaction ml_Mod_187 im_Mod_isTransaction sl_Mod_isTransaction rfl ⟨by decide, by decide⟩ rfl (ci := 6) (q0 := 0) rfl rfl rfl (Nat.le_of_ble_eq_true rfl) (j_sb [0, 1, 2, 3, 4, 5] rfl rfl) rfl d_Mod_output_2 (fun r w1 hO => ?_)
      obtain ⟨rfl, rfl⟩ := hO
      show j_V g κ 0 0 5 [(0, .ref o), (1, .int (nI u)), (2, .int i0), (3, .int x)] [.int (if 0 ≤ nI u ∧ nI u < nI cnt then (1 : Int32) else 0)] ([(o, .inr (6, mo a sz (nI n) ib (nI cnt) pl q wr z db)), (a 1, .inl (aI g, 2000, .inl (nf t))), (a 5, .inl (aI g, 12, .inl (F 5))), (a 9, .inl (aI g, 96, .inl (F 9))), (a 10, .inl (aI g, 96, .inl (F 10))), (a 11, .inl (aI g, 96, .inl (F 11)))])
      refine j_if_eqB (pc := 5) (tgt := 22) C d_Mod_output_5 rfl (fun c5 => ?_) (fun c5 => ?_)
      · skip
        exact absurd ⟨nI_pos' (by omega), nI_lt hu (by omega)⟩ c5
      · skip
        refine j_iload_n (pc := 8) C d_Mod_output_8 rfl 2 rfl ?_
        refine j_if_lt (pc := 9) (tgt := 22) C d_Mod_output_9 rfl (fun c9 => ?_) (fun c9 => ?_)
        · skip
          refine j_ldc2 (pc := 22) C k_Mod_185 d_Mod_output_22 ?_
          exact hR.2.1 _ _ _ _ d_Mod_output_25 rfl (⟨by first | (exfalso; omega) | rw [outR_neg hu] | rw [outR_big hu] | (rw [outR_1 hu (by omega), if_neg (fun z => nlt0 (by assumption) z.1)]) | (rw [outR_1 hu (by omega), if_neg (fun z => nle (by assumption) z.2)]) | (rw [outR_in hu (by omega) hi (by omega)]; unfold outV; first | rw [sel_neg hq9] | rw [sel_big hq9] | (rw [g2, g1]; rfl)), rfl⟩)
        · skip
          refine j_iload_n (pc := 12) C d_Mod_output_12 rfl 2 rfl ?_
          refine j_aload_n (pc := 13) C d_Mod_output_13 rfl 0 rfl ?_
          refine j_get (pc := 14) C F_Mod_29 0 rfl rfl d_Mod_output_14 ?_
          refine j_iload_n (pc := 17) C d_Mod_output_17 rfl 1 rfl ?_
          refine j_ialdN (pc := 18) C 2 1 rfl rfl (by omega) (by omega) d_Mod_output_18 ?_
          refine j_rwi (y := nI ((xY t n (itN (rTx t n) u s2)).1)) (h3) ?_
          refine j_icmp_lt (pc := 19) (tgt := 26) C d_Mod_output_19 rfl (fun c19 => ?_) (fun c19 => ?_)
          · skip
            first | exact absurd hi c9 | exact absurd c19 (nle hi)
          · skip
            refine j_ldc2 (pc := 22) C k_Mod_185 d_Mod_output_22 ?_
            exact hR.2.1 _ _ _ _ d_Mod_output_25 rfl (⟨by first | (exfalso; omega) | rw [outR_neg hu] | rw [outR_big hu] | (rw [outR_1 hu (by omega), if_neg (fun z => nlt0 (by assumption) z.1)]) | (rw [outR_1 hu (by omega), if_neg (fun z => nle (by assumption) z.2)]) | (rw [outR_in hu (by omega) hi (by omega)]; unfold outV; first | rw [sel_neg hq9] | rw [sel_big hq9] | (rw [g2, g1]; rfl)), rfl⟩)
    · skip
      obtain ⟨a1, q1, p1, g1, g2, g3, g4, g5, g6⟩ := out_st he hi
      obtain ⟨k1, k2, k3⟩ := hHo i hi p1 g3
      have hl200 : (outZ t n (xO t n (itN (rTx t n) u s2) i)).1 ≤ 200 := rSize_le
      rcases pk_ix x (n := 3) (by decide) with hq9 | hq9 | ⟨q9, hq9, rfl⟩
      · skip
        show j_V g κ 0 0 0 [(0, .ref o), (1, .int (nI u)), (2, .int (nI i)), (3, .int x)] [] ([(o, .inr (6, mo a sz (nI n) ib (nI cnt) pl q wr z db)), (a 1, .inl (aI g, 2000, .inl (nf t))), (a 5, .inl (aI g, 12, .inl (F 5))), (a 9, .inl (aI g, 96, .inl (F 9))), (a 10, .inl (aI g, 96, .inl (F 10))), (a 11, .inl (aI g, 96, .inl (F 11)))])
        refine j_aload_n (pc := 0) C d_Mod_output_0 rfl 0 rfl ?_
        refine j_iload_n (pc := 1) C d_Mod_output_1 rfl 1 rfl ?_
        refine j_callV (pc := 2) (As := [.int (nI u)]) (rest := []) (wc := [(o, .inr (6, mo a sz (nI n) ib (nI cnt) pl q wr z db))]) (wr := [(a 1, .inl (aI g, 2000, .inl (nf t))), (a 5, .inl (aI g, 12, .inl (F 5))), (a 9, .inl (aI g, 96, .inl (F 9))), (a 10, .inl (aI g, 96, .inl (F 10))), (a 11, .inl (aI g, 96, .inl (F 11)))]) C (c_Mod_isTransaction (kl κ) g o a n cnt (nI u) sz ib pl db q wr z (by omega)) Y_Mod_isTransaction ml_Mod_187 im_Mod_isTransaction sl_Mod_isTransaction rfl ⟨by decide, by decide⟩ rfl (ci := 6) (q0 := 0) rfl rfl rfl (Nat.le_of_ble_eq_true rfl) (j_sb [0, 1, 2, 3, 4, 5] rfl rfl) rfl d_Mod_output_2 (fun r w1 hO => ?_)
        obtain ⟨rfl, rfl⟩ := hO
        show j_V g κ 0 0 5 [(0, .ref o), (1, .int (nI u)), (2, .int (nI i)), (3, .int x)] [.int (if 0 ≤ nI u ∧ nI u < nI cnt then (1 : Int32) else 0)] ([(o, .inr (6, mo a sz (nI n) ib (nI cnt) pl q wr z db)), (a 1, .inl (aI g, 2000, .inl (nf t))), (a 5, .inl (aI g, 12, .inl (F 5))), (a 9, .inl (aI g, 96, .inl (F 9))), (a 10, .inl (aI g, 96, .inl (F 10))), (a 11, .inl (aI g, 96, .inl (F 11)))])
        refine j_if_eqB (pc := 5) (tgt := 22) C d_Mod_output_5 rfl (fun c5 => ?_) (fun c5 => ?_)
        · skip
          exact absurd ⟨nI_pos' (by omega), nI_lt hu (by omega)⟩ c5
        · skip
          refine j_iload_n (pc := 8) C d_Mod_output_8 rfl 2 rfl ?_
          refine j_if_ltN (pc := 9) (tgt := 22) C (by omega) d_Mod_output_9 rfl ?_
          refine j_iload_n (pc := 12) C d_Mod_output_12 rfl 2 rfl ?_
          refine j_aload_n (pc := 13) C d_Mod_output_13 rfl 0 rfl ?_
          refine j_get (pc := 14) C F_Mod_29 0 rfl rfl d_Mod_output_14 ?_
          refine j_iload_n (pc := 17) C d_Mod_output_17 rfl 1 rfl ?_
          refine j_ialdN (pc := 18) C 2 1 rfl rfl (by omega) (by omega) d_Mod_output_18 ?_
          refine j_rwi (y := nI ((xY t n (itN (rTx t n) u s2)).1)) (h3) ?_
          refine j_icmp_ltN (pc := 19) (tgt := 26) C (by omega) (by omega) d_Mod_output_19 rfl (fun c19 => ?_) (fun c19 => ?_)
          · skip
            refine j_bipush (pc := 26) (v := nI 8) C d_Mod_output_26 (by decide) ?_
            refine j_iload_n (pc := 28) C d_Mod_output_28 rfl 1 rfl ?_
            refine j_imulN (pc := 29) C d_Mod_output_29 ?_
            refine j_iload_n (pc := 30) C d_Mod_output_30 rfl 2 rfl ?_
            refine j_iaddN (pc := 31) C d_Mod_output_31 ?_
            refine j_istore (pc := 32) (lv' := [(4, .int (nI ((8 * u) + i))), (0, .ref o), (1, .int (nI u)), (2, .int (nI i)), (3, .int x)]) C d_Mod_output_32 (by decide) rfl ?_
            refine j_iload_n (pc := 34) C d_Mod_output_34 rfl 4 rfl ?_
            refine j_tableOut (pc := 35) (tgt := 92) C d_Mod_output_35 (Or.inl (ts_neg hq9)) (by decide) ?_
            refine j_ldc2 (pc := 92) C k_Mod_185 d_Mod_output_92 ?_
            exact hR.2.1 _ _ _ _ d_Mod_output_95 rfl (⟨by first | (exfalso; omega) | rw [outR_neg hu] | rw [outR_big hu] | (rw [outR_1 hu (by omega), if_neg (fun z => nlt0 (by assumption) z.1)]) | (rw [outR_1 hu (by omega), if_neg (fun z => nle (by assumption) z.2)]) | (rw [outR_in hu (by omega) hi (by omega)]; unfold outV; first | rw [sel_neg hq9] | rw [sel_big hq9] | (rw [g2, g1]; rfl)), rfl⟩)
          · skip
            refine j_ldc2 (pc := 22) C k_Mod_185 d_Mod_output_22 ?_
            exact hR.2.1 _ _ _ _ d_Mod_output_25 rfl (⟨by first | (exfalso; omega) | rw [outR_neg hu] | rw [outR_big hu] | (rw [outR_1 hu (by omega), if_neg (fun z => nlt0 (by assumption) z.1)]) | (rw [outR_1 hu (by omega), if_neg (fun z => nle (by assumption) z.2)]) | (rw [outR_in hu (by omega) hi (by omega)]; unfold outV; first | rw [sel_neg hq9] | rw [sel_big hq9] | (rw [g2, g1]; rfl)), rfl⟩)
      · skip
        show j_V g κ 0 0 0 [(0, .ref o), (1, .int (nI u)), (2, .int (nI i)), (3, .int x)] [] ([(o, .inr (6, mo a sz (nI n) ib (nI cnt) pl q wr z db)), (a 1, .inl (aI g, 2000, .inl (nf t))), (a 5, .inl (aI g, 12, .inl (F 5))), (a 9, .inl (aI g, 96, .inl (F 9))), (a 10, .inl (aI g, 96, .inl (F 10))), (a 11, .inl (aI g, 96, .inl (F 11)))])
        refine j_aload_n (pc := 0) C d_Mod_output_0 rfl 0 rfl ?_
        refine j_iload_n (pc := 1) C d_Mod_output_1 rfl 1 rfl ?_
        refine j_callV (pc := 2) (As := [.int (nI u)]) (rest := []) (wc := [(o, .inr (6, mo a sz (nI n) ib (nI cnt) pl q wr z db))]) (wr := [(a 1, .inl (aI g, 2000, .inl (nf t))), (a 5, .inl (aI g, 12, .inl (F 5))), (a 9, .inl (aI g, 96, .inl (F 9))), (a 10, .inl (aI g, 96, .inl (F 10))), (a 11, .inl (aI g, 96, .inl (F 11)))]) C (c_Mod_isTransaction (kl κ) g o a n cnt (nI u) sz ib pl db q wr z (by omega)) Y_Mod_isTransaction ml_Mod_187 im_Mod_isTransaction sl_Mod_isTransaction rfl ⟨by decide, by decide⟩ rfl (ci := 6) (q0 := 0) rfl rfl rfl (Nat.le_of_ble_eq_true rfl) (j_sb [0, 1, 2, 3, 4, 5] rfl rfl) rfl d_Mod_output_2 (fun r w1 hO => ?_)
        obtain ⟨rfl, rfl⟩ := hO
        show j_V g κ 0 0 5 [(0, .ref o), (1, .int (nI u)), (2, .int (nI i)), (3, .int x)] [.int (if 0 ≤ nI u ∧ nI u < nI cnt then (1 : Int32) else 0)] ([(o, .inr (6, mo a sz (nI n) ib (nI cnt) pl q wr z db)), (a 1, .inl (aI g, 2000, .inl (nf t))), (a 5, .inl (aI g, 12, .inl (F 5))), (a 9, .inl (aI g, 96, .inl (F 9))), (a 10, .inl (aI g, 96, .inl (F 10))), (a 11, .inl (aI g, 96, .inl (F 11)))])
        refine j_if_eqB (pc := 5) (tgt := 22) C d_Mod_output_5 rfl (fun c5 => ?_) (fun c5 => ?_)
        · skip
          exact absurd ⟨nI_pos' (by omega), nI_lt hu (by omega)⟩ c5
        · skip
          refine j_iload_n (pc := 8) C d_Mod_output_8 rfl 2 rfl ?_
          refine j_if_ltN (pc := 9) (tgt := 22) C (by omega) d_Mod_output_9 rfl ?_
          refine j_iload_n (pc := 12) C d_Mod_output_12 rfl 2 rfl ?_
          refine j_aload_n (pc := 13) C d_Mod_output_13 rfl 0 rfl ?_
          refine j_get (pc := 14) C F_Mod_29 0 rfl rfl d_Mod_output_14 ?_
          refine j_iload_n (pc := 17) C d_Mod_output_17 rfl 1 rfl ?_
          refine j_ialdN (pc := 18) C 2 1 rfl rfl (by omega) (by omega) d_Mod_output_18 ?_
          refine j_rwi (y := nI ((xY t n (itN (rTx t n) u s2)).1)) (h3) ?_
          refine j_icmp_ltN (pc := 19) (tgt := 26) C (by omega) (by omega) d_Mod_output_19 rfl (fun c19 => ?_) (fun c19 => ?_)
          · skip
            refine j_bipush (pc := 26) (v := nI 8) C d_Mod_output_26 (by decide) ?_
            refine j_iload_n (pc := 28) C d_Mod_output_28 rfl 1 rfl ?_
            refine j_imulN (pc := 29) C d_Mod_output_29 ?_
            refine j_iload_n (pc := 30) C d_Mod_output_30 rfl 2 rfl ?_
            refine j_iaddN (pc := 31) C d_Mod_output_31 ?_
            refine j_istore (pc := 32) (lv' := [(4, .int (nI ((8 * u) + i))), (0, .ref o), (1, .int (nI u)), (2, .int (nI i)), (3, .int x)]) C d_Mod_output_32 (by decide) rfl ?_
            refine j_iload_n (pc := 34) C d_Mod_output_34 rfl 4 rfl ?_
            refine j_tableOut (pc := 35) (tgt := 92) C d_Mod_output_35 (Or.inr (ts_big (k := 2) (by decide) hq9)) (by decide) ?_
            refine j_ldc2 (pc := 92) C k_Mod_185 d_Mod_output_92 ?_
            exact hR.2.1 _ _ _ _ d_Mod_output_95 rfl (⟨by first | (exfalso; omega) | rw [outR_neg hu] | rw [outR_big hu] | (rw [outR_1 hu (by omega), if_neg (fun z => nlt0 (by assumption) z.1)]) | (rw [outR_1 hu (by omega), if_neg (fun z => nle (by assumption) z.2)]) | (rw [outR_in hu (by omega) hi (by omega)]; unfold outV; first | rw [sel_neg hq9] | rw [sel_big hq9] | (rw [g2, g1]; rfl)), rfl⟩)
          · skip
            refine j_ldc2 (pc := 22) C k_Mod_185 d_Mod_output_22 ?_
            exact hR.2.1 _ _ _ _ d_Mod_output_25 rfl (⟨by first | (exfalso; omega) | rw [outR_neg hu] | rw [outR_big hu] | (rw [outR_1 hu (by omega), if_neg (fun z => nlt0 (by assumption) z.1)]) | (rw [outR_1 hu (by omega), if_neg (fun z => nle (by assumption) z.2)]) | (rw [outR_in hu (by omega) hi (by omega)]; unfold outV; first | rw [sel_neg hq9] | rw [sel_big hq9] | (rw [g2, g1]; rfl)), rfl⟩)
      · skip
        rcases (by omega : q9 = 0 ∨ q9 = 1 ∨ q9 = 2) with rfl | rfl | rfl
        · skip
          show j_V g κ 0 0 0 [(0, .ref o), (1, .int (nI u)), (2, .int (nI i)), (3, .int (nI 0))] [] ([(o, .inr (6, mo a sz (nI n) ib (nI cnt) pl q wr z db)), (a 1, .inl (aI g, 2000, .inl (nf t))), (a 5, .inl (aI g, 12, .inl (F 5))), (a 9, .inl (aI g, 96, .inl (F 9))), (a 10, .inl (aI g, 96, .inl (F 10))), (a 11, .inl (aI g, 96, .inl (F 11)))])
          refine j_aload_n (pc := 0) C d_Mod_output_0 rfl 0 rfl ?_
          refine j_iload_n (pc := 1) C d_Mod_output_1 rfl 1 rfl ?_
          refine j_callV (pc := 2) (As := [.int (nI u)]) (rest := []) (wc := [(o, .inr (6, mo a sz (nI n) ib (nI cnt) pl q wr z db))]) (wr := [(a 1, .inl (aI g, 2000, .inl (nf t))), (a 5, .inl (aI g, 12, .inl (F 5))), (a 9, .inl (aI g, 96, .inl (F 9))), (a 10, .inl (aI g, 96, .inl (F 10))), (a 11, .inl (aI g, 96, .inl (F 11)))]) C (c_Mod_isTransaction (kl κ) g o a n cnt (nI u) sz ib pl db q wr z (by omega)) Y_Mod_isTransaction ml_Mod_187 im_Mod_isTransaction sl_Mod_isTransaction rfl ⟨by decide, by decide⟩ rfl (ci := 6) (q0 := 0) rfl rfl rfl (Nat.le_of_ble_eq_true rfl) (j_sb [0, 1, 2, 3, 4, 5] rfl rfl) rfl d_Mod_output_2 (fun r w1 hO => ?_)
          obtain ⟨rfl, rfl⟩ := hO
          show j_V g κ 0 0 5 [(0, .ref o), (1, .int (nI u)), (2, .int (nI i)), (3, .int (nI 0))] [.int (if 0 ≤ nI u ∧ nI u < nI cnt then (1 : Int32) else 0)] ([(o, .inr (6, mo a sz (nI n) ib (nI cnt) pl q wr z db)), (a 1, .inl (aI g, 2000, .inl (nf t))), (a 5, .inl (aI g, 12, .inl (F 5))), (a 9, .inl (aI g, 96, .inl (F 9))), (a 10, .inl (aI g, 96, .inl (F 10))), (a 11, .inl (aI g, 96, .inl (F 11)))])
          refine j_if_eqB (pc := 5) (tgt := 22) C d_Mod_output_5 rfl (fun c5 => ?_) (fun c5 => ?_)
          · skip
            exact absurd ⟨nI_pos' (by omega), nI_lt hu (by omega)⟩ c5
          · skip
            refine j_iload_n (pc := 8) C d_Mod_output_8 rfl 2 rfl ?_
            refine j_if_ltN (pc := 9) (tgt := 22) C (by omega) d_Mod_output_9 rfl ?_
            refine j_iload_n (pc := 12) C d_Mod_output_12 rfl 2 rfl ?_
            refine j_aload_n (pc := 13) C d_Mod_output_13 rfl 0 rfl ?_
            refine j_get (pc := 14) C F_Mod_29 0 rfl rfl d_Mod_output_14 ?_
            refine j_iload_n (pc := 17) C d_Mod_output_17 rfl 1 rfl ?_
            refine j_ialdN (pc := 18) C 2 1 rfl rfl (by omega) (by omega) d_Mod_output_18 ?_
            refine j_rwi (y := nI ((xY t n (itN (rTx t n) u s2)).1)) (h3) ?_
            refine j_icmp_ltN (pc := 19) (tgt := 26) C (by omega) (by omega) d_Mod_output_19 rfl (fun c19 => ?_) (fun c19 => ?_)
            · skip
              refine j_bipush (pc := 26) (v := nI 8) C d_Mod_output_26 (by decide) ?_
              refine j_iload_n (pc := 28) C d_Mod_output_28 rfl 1 rfl ?_
              refine j_imulN (pc := 29) C d_Mod_output_29 ?_
              refine j_iload_n (pc := 30) C d_Mod_output_30 rfl 2 rfl ?_
              refine j_iaddN (pc := 31) C d_Mod_output_31 ?_
              refine j_istore (pc := 32) (lv' := [(4, .int (nI ((8 * u) + i))), (0, .ref o), (1, .int (nI u)), (2, .int (nI i)), (3, .int (nI 0))]) C d_Mod_output_32 (by decide) rfl ?_
              refine j_iload_n (pc := 34) C d_Mod_output_34 rfl 4 rfl ?_
              refine j_tableIn (pc := 35) (tgt := 60) C d_Mod_output_35 (by decide) (by decide) rfl (by decide) ?_
              refine j_aload_n (pc := 60) C d_Mod_output_60 rfl 1 rfl ?_
              refine j_aload_n (pc := 61) C d_Mod_output_61 rfl 1 rfl ?_
              refine j_get (pc := 62) C F_Mod_41 0 rfl rfl d_Mod_output_62 ?_
              refine j_iload (pc := 65) C d_Mod_output_65 0 rfl ?_
              refine j_ialdN (pc := 67) C 3 1 rfl rfl (by omega) (by omega) d_Mod_output_67 ?_
              refine j_rwi (y := nI a1) (by rw [k1]; exact congrArg (fun z => nI (pos z)) g1) ?_
              refine j_bipush (pc := 68) (v := nI 8) C d_Mod_output_68 (by decide) ?_
              refine j_callV (pc := 70) (As := [.int (nI a1), .int (nI 8)]) (rest := []) (wc := [(o, .inr (6, mo a sz (nI n) ib (nI cnt) pl q wr z db)), (a 1, .inl (aI g, 2000, .inl (nf t)))]) (wr := [(a 5, .inl (aI g, 12, .inl (F 5))), (a 9, .inl (aI g, 96, .inl (F 9))), (a 10, .inl (aI g, 96, .inl (F 10))), (a 11, .inl (aI g, 96, .inl (F 11)))]) C (c_Mod_lowAt (kl κ) g o a n a1 8 t sz ib (nI cnt) pl db q wr z hT (by omega) (by omega)) Y_Mod_lowAt ml_Mod_156 im_Mod_lowAt sl_Mod_lowAt rfl ⟨by decide, by decide⟩ rfl (ci := 6) (q0 := 0) rfl rfl rfl (Nat.le_of_ble_eq_true rfl) (j_sb [0, 1, 2, 3, 4, 5] rfl rfl) rfl d_Mod_output_70 (fun r w1 hO => ?_)
              obtain ⟨rfl, rfl⟩ := hO
              show j_V g κ 0 0 73 [(4, .int (nI ((8 * u) + i))), (0, .ref o), (1, .int (nI u)), (2, .int (nI i)), (3, .int (nI 0))] [.long (lN (lf t a1 8))] ([(o, .inr (6, mo a sz (nI n) ib (nI cnt) pl q wr z db)), (a 1, .inl (aI g, 2000, .inl (nf t))), (a 5, .inl (aI g, 12, .inl (F 5))), (a 9, .inl (aI g, 96, .inl (F 9))), (a 10, .inl (aI g, 96, .inl (F 10))), (a 11, .inl (aI g, 96, .inl (F 11)))])
              exact hR.2.1 _ _ _ _ d_Mod_output_73 rfl (⟨by first | (exfalso; omega) | rw [outR_neg hu] | rw [outR_big hu] | (rw [outR_1 hu (by omega), if_neg (fun z => nlt0 (by assumption) z.1)]) | (rw [outR_1 hu (by omega), if_neg (fun z => nle (by assumption) z.2)]) | (rw [outR_in hu (by omega) hi (by omega)]; unfold outV; first | rw [sel_neg hq9] | rw [sel_big hq9] | (rw [g2, g1]; rfl)), rfl⟩)
            · skip
              refine j_ldc2 (pc := 22) C k_Mod_185 d_Mod_output_22 ?_
              exact hR.2.1 _ _ _ _ d_Mod_output_25 rfl (⟨by first | (exfalso; omega) | rw [outR_neg hu] | rw [outR_big hu] | (rw [outR_1 hu (by omega), if_neg (fun z => nlt0 (by assumption) z.1)]) | (rw [outR_1 hu (by omega), if_neg (fun z => nle (by assumption) z.2)]) | (rw [outR_in hu (by omega) hi (by omega)]; unfold outV; first | rw [sel_neg hq9] | rw [sel_big hq9] | (rw [g2, g1]; rfl)), rfl⟩)
        · skip
          show j_V g κ 0 0 0 [(0, .ref o), (1, .int (nI u)), (2, .int (nI i)), (3, .int (nI 1))] [] ([(o, .inr (6, mo a sz (nI n) ib (nI cnt) pl q wr z db)), (a 1, .inl (aI g, 2000, .inl (nf t))), (a 5, .inl (aI g, 12, .inl (F 5))), (a 9, .inl (aI g, 96, .inl (F 9))), (a 10, .inl (aI g, 96, .inl (F 10))), (a 11, .inl (aI g, 96, .inl (F 11)))])
          refine j_aload_n (pc := 0) C d_Mod_output_0 rfl 0 rfl ?_
          refine j_iload_n (pc := 1) C d_Mod_output_1 rfl 1 rfl ?_
          refine j_callV (pc := 2) (As := [.int (nI u)]) (rest := []) (wc := [(o, .inr (6, mo a sz (nI n) ib (nI cnt) pl q wr z db))]) (wr := [(a 1, .inl (aI g, 2000, .inl (nf t))), (a 5, .inl (aI g, 12, .inl (F 5))), (a 9, .inl (aI g, 96, .inl (F 9))), (a 10, .inl (aI g, 96, .inl (F 10))), (a 11, .inl (aI g, 96, .inl (F 11)))]) C (c_Mod_isTransaction (kl κ) g o a n cnt (nI u) sz ib pl db q wr z (by omega)) Y_Mod_isTransaction ml_Mod_187 im_Mod_isTransaction sl_Mod_isTransaction rfl ⟨by decide, by decide⟩ rfl (ci := 6) (q0 := 0) rfl rfl rfl (Nat.le_of_ble_eq_true rfl) (j_sb [0, 1, 2, 3, 4, 5] rfl rfl) rfl d_Mod_output_2 (fun r w1 hO => ?_)
          obtain ⟨rfl, rfl⟩ := hO
          show j_V g κ 0 0 5 [(0, .ref o), (1, .int (nI u)), (2, .int (nI i)), (3, .int (nI 1))] [.int (if 0 ≤ nI u ∧ nI u < nI cnt then (1 : Int32) else 0)] ([(o, .inr (6, mo a sz (nI n) ib (nI cnt) pl q wr z db)), (a 1, .inl (aI g, 2000, .inl (nf t))), (a 5, .inl (aI g, 12, .inl (F 5))), (a 9, .inl (aI g, 96, .inl (F 9))), (a 10, .inl (aI g, 96, .inl (F 10))), (a 11, .inl (aI g, 96, .inl (F 11)))])
          refine j_if_eqB (pc := 5) (tgt := 22) C d_Mod_output_5 rfl (fun c5 => ?_) (fun c5 => ?_)
          · skip
            exact absurd ⟨nI_pos' (by omega), nI_lt hu (by omega)⟩ c5
          · skip
            refine j_iload_n (pc := 8) C d_Mod_output_8 rfl 2 rfl ?_
            refine j_if_ltN (pc := 9) (tgt := 22) C (by omega) d_Mod_output_9 rfl ?_
            refine j_iload_n (pc := 12) C d_Mod_output_12 rfl 2 rfl ?_
            refine j_aload_n (pc := 13) C d_Mod_output_13 rfl 0 rfl ?_
            refine j_get (pc := 14) C F_Mod_29 0 rfl rfl d_Mod_output_14 ?_
            refine j_iload_n (pc := 17) C d_Mod_output_17 rfl 1 rfl ?_
            refine j_ialdN (pc := 18) C 2 1 rfl rfl (by omega) (by omega) d_Mod_output_18 ?_
            refine j_rwi (y := nI ((xY t n (itN (rTx t n) u s2)).1)) (h3) ?_
            refine j_icmp_ltN (pc := 19) (tgt := 26) C (by omega) (by omega) d_Mod_output_19 rfl (fun c19 => ?_) (fun c19 => ?_)
            · skip
              refine j_bipush (pc := 26) (v := nI 8) C d_Mod_output_26 (by decide) ?_
              refine j_iload_n (pc := 28) C d_Mod_output_28 rfl 1 rfl ?_
              refine j_imulN (pc := 29) C d_Mod_output_29 ?_
              refine j_iload_n (pc := 30) C d_Mod_output_30 rfl 2 rfl ?_
              refine j_iaddN (pc := 31) C d_Mod_output_31 ?_
              refine j_istore (pc := 32) (lv' := [(4, .int (nI ((8 * u) + i))), (0, .ref o), (1, .int (nI u)), (2, .int (nI i)), (3, .int (nI 1))]) C d_Mod_output_32 (by decide) rfl ?_
              refine j_iload_n (pc := 34) C d_Mod_output_34 rfl 4 rfl ?_
              refine j_tableIn (pc := 35) (tgt := 74) C d_Mod_output_35 (by decide) (by decide) rfl (by decide) ?_
              refine j_aload_n (pc := 74) C d_Mod_output_74 rfl 1 rfl ?_
              refine j_get (pc := 75) C F_Mod_44 0 rfl rfl d_Mod_output_75 ?_
              refine j_iload (pc := 78) C d_Mod_output_78 0 rfl ?_
              refine j_ialdN (pc := 80) C 4 1 rfl rfl (by omega) (by omega) d_Mod_output_80 ?_
              refine j_rwi (y := nI q1) (by rw [k2]; exact congrArg (fun z => nI (pos z)) g2) ?_
              refine j_i2l (pc := 81) (v := lN q1) C d_Mod_output_81 (nI_l (by omega)) ?_
              exact hR.2.1 _ _ _ _ d_Mod_output_82 rfl (⟨by first | (exfalso; omega) | rw [outR_neg hu] | rw [outR_big hu] | (rw [outR_1 hu (by omega), if_neg (fun z => nlt0 (by assumption) z.1)]) | (rw [outR_1 hu (by omega), if_neg (fun z => nle (by assumption) z.2)]) | (rw [outR_in hu (by omega) hi (by omega)]; unfold outV; first | rw [sel_neg hq9] | rw [sel_big hq9] | (rw [g2, g1]; rfl)), rfl⟩)
            · skip
              refine j_ldc2 (pc := 22) C k_Mod_185 d_Mod_output_22 ?_
              exact hR.2.1 _ _ _ _ d_Mod_output_25 rfl (⟨by first | (exfalso; omega) | rw [outR_neg hu] | rw [outR_big hu] | (rw [outR_1 hu (by omega), if_neg (fun z => nlt0 (by assumption) z.1)]) | (rw [outR_1 hu (by omega), if_neg (fun z => nle (by assumption) z.2)]) | (rw [outR_in hu (by omega) hi (by omega)]; unfold outV; first | rw [sel_neg hq9] | rw [sel_big hq9] | (rw [g2, g1]; rfl)), rfl⟩)
        · skip
          show j_V g κ 0 0 0 [(0, .ref o), (1, .int (nI u)), (2, .int (nI i)), (3, .int (nI 2))] [] ([(o, .inr (6, mo a sz (nI n) ib (nI cnt) pl q wr z db)), (a 1, .inl (aI g, 2000, .inl (nf t))), (a 5, .inl (aI g, 12, .inl (F 5))), (a 9, .inl (aI g, 96, .inl (F 9))), (a 10, .inl (aI g, 96, .inl (F 10))), (a 11, .inl (aI g, 96, .inl (F 11)))])
          refine j_aload_n (pc := 0) C d_Mod_output_0 rfl 0 rfl ?_
          refine j_iload_n (pc := 1) C d_Mod_output_1 rfl 1 rfl ?_
          refine j_callV (pc := 2) (As := [.int (nI u)]) (rest := []) (wc := [(o, .inr (6, mo a sz (nI n) ib (nI cnt) pl q wr z db))]) (wr := [(a 1, .inl (aI g, 2000, .inl (nf t))), (a 5, .inl (aI g, 12, .inl (F 5))), (a 9, .inl (aI g, 96, .inl (F 9))), (a 10, .inl (aI g, 96, .inl (F 10))), (a 11, .inl (aI g, 96, .inl (F 11)))]) C (c_Mod_isTransaction (kl κ) g o a n cnt (nI u) sz ib pl db q wr z (by omega)) Y_Mod_isTransaction ml_Mod_187 im_Mod_isTransaction sl_Mod_isTransaction rfl ⟨by decide, by decide⟩ rfl (ci := 6) (q0 := 0) rfl rfl rfl (Nat.le_of_ble_eq_true rfl) (j_sb [0, 1, 2, 3, 4, 5] rfl rfl) rfl d_Mod_output_2 (fun r w1 hO => ?_)
          obtain ⟨rfl, rfl⟩ := hO
          show j_V g κ 0 0 5 [(0, .ref o), (1, .int (nI u)), (2, .int (nI i)), (3, .int (nI 2))] [.int (if 0 ≤ nI u ∧ nI u < nI cnt then (1 : Int32) else 0)] ([(o, .inr (6, mo a sz (nI n) ib (nI cnt) pl q wr z db)), (a 1, .inl (aI g, 2000, .inl (nf t))), (a 5, .inl (aI g, 12, .inl (F 5))), (a 9, .inl (aI g, 96, .inl (F 9))), (a 10, .inl (aI g, 96, .inl (F 10))), (a 11, .inl (aI g, 96, .inl (F 11)))])
          refine j_if_eqB (pc := 5) (tgt := 22) C d_Mod_output_5 rfl (fun c5 => ?_) (fun c5 => ?_)
          · skip
            exact absurd ⟨nI_pos' (by omega), nI_lt hu (by omega)⟩ c5
          · skip
            refine j_iload_n (pc := 8) C d_Mod_output_8 rfl 2 rfl ?_
            refine j_if_ltN (pc := 9) (tgt := 22) C (by omega) d_Mod_output_9 rfl ?_
            refine j_iload_n (pc := 12) C d_Mod_output_12 rfl 2 rfl ?_
            refine j_aload_n (pc := 13) C d_Mod_output_13 rfl 0 rfl ?_
            refine j_get (pc := 14) C F_Mod_29 0 rfl rfl d_Mod_output_14 ?_
            refine j_iload_n (pc := 17) C d_Mod_output_17 rfl 1 rfl ?_
            refine j_ialdN (pc := 18) C 2 1 rfl rfl (by omega) (by omega) d_Mod_output_18 ?_
            refine j_rwi (y := nI ((xY t n (itN (rTx t n) u s2)).1)) (h3) ?_
            refine j_icmp_ltN (pc := 19) (tgt := 26) C (by omega) (by omega) d_Mod_output_19 rfl (fun c19 => ?_) (fun c19 => ?_)
            · skip
              refine j_bipush (pc := 26) (v := nI 8) C d_Mod_output_26 (by decide) ?_
              refine j_iload_n (pc := 28) C d_Mod_output_28 rfl 1 rfl ?_
              refine j_imulN (pc := 29) C d_Mod_output_29 ?_
              refine j_iload_n (pc := 30) C d_Mod_output_30 rfl 2 rfl ?_
              refine j_iaddN (pc := 31) C d_Mod_output_31 ?_
              refine j_istore (pc := 32) (lv' := [(4, .int (nI ((8 * u) + i))), (0, .ref o), (1, .int (nI u)), (2, .int (nI i)), (3, .int (nI 2))]) C d_Mod_output_32 (by decide) rfl ?_
              refine j_iload_n (pc := 34) C d_Mod_output_34 rfl 4 rfl ?_
              refine j_tableIn (pc := 35) (tgt := 83) C d_Mod_output_35 (by decide) (by decide) rfl (by decide) ?_
              refine j_aload_n (pc := 83) C d_Mod_output_83 rfl 1 rfl ?_
              refine j_get (pc := 84) C F_Mod_47 0 rfl rfl d_Mod_output_84 ?_
              refine j_iload (pc := 87) C d_Mod_output_87 0 rfl ?_
              refine j_ialdN (pc := 89) C 5 1 rfl rfl (by omega) (by omega) d_Mod_output_89 ?_
              refine j_rwi (y := nI ((outZ t n (xO t n (itN (rTx t n) u s2) i)).1)) (k3) ?_
              refine j_i2l (pc := 90) (v := lN ((outZ t n (xO t n (itN (rTx t n) u s2) i)).1)) C d_Mod_output_90 (nI_l (by omega)) ?_
              exact hR.2.1 _ _ _ _ d_Mod_output_91 rfl (⟨by first | (exfalso; omega) | rw [outR_neg hu] | rw [outR_big hu] | (rw [outR_1 hu (by omega), if_neg (fun z => nlt0 (by assumption) z.1)]) | (rw [outR_1 hu (by omega), if_neg (fun z => nle (by assumption) z.2)]) | (rw [outR_in hu (by omega) hi (by omega)]; unfold outV; first | rw [sel_neg hq9] | rw [sel_big hq9] | (rw [g2, g1]; rfl)), rfl⟩)
            · skip
              refine j_ldc2 (pc := 22) C k_Mod_185 d_Mod_output_22 ?_
              exact hR.2.1 _ _ _ _ d_Mod_output_25 rfl (⟨by first | (exfalso; omega) | rw [outR_neg hu] | rw [outR_big hu] | (rw [outR_1 hu (by omega), if_neg (fun z => nlt0 (by assumption) z.1)]) | (rw [outR_1 hu (by omega), if_neg (fun z => nle (by assumption) z.2)]) | (rw [outR_in hu (by omega) hi (by omega)]; unfold outV; first | rw [sel_neg hq9] | rw [sel_big hq9] | (rw [g2, g1]; rfl)), rfl⟩)
