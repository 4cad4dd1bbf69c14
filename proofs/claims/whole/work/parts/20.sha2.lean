theorem bI_turn2 (a : BW) {k : Nat} (h0 : 0 < k) (hk : k < 32) : bI (a >>> k) ||| bI (a <<< (32 - k)) = bI (a.rotateRight k) := by
  rw [bI_or]
  congr 1
  rw [BitVec.rotateRight_def, Nat.mod_eq_of_lt hk]
theorem pb_1 {t : Nat → Nat} {n i : Nat} (h : i < n) : pb t n i = t i := if_pos h
theorem pb_2 {t : Nat → Nat} {n i : Nat} (h : i = n) : pb t n i = 128 := by unfold pb; rw [if_neg (by omega), if_pos h]
theorem pb_3 {t : Nat → Nat} {n i : Nat} (h : n < i) (h2 : pLast n - 4 < i) : pb t n i = n * 8 / 2 ^ (8 * (pLast n - i)) % 256 := by unfold pb; rw [if_neg (by omega), if_neg (by omega), if_pos h2]
theorem pb_4 {t : Nat → Nat} {n i : Nat} (h : n < i) (h2 : i ≤ pLast n - 4) : pb t n i = 0 := by unfold pb; rw [if_neg (by omega), if_neg (by omega), if_neg (by omega)]
/-- the schedule while it is stretched -/
def stW (w : Nat → BW) (i : Nat) : Nat → BW := fun j => if j < i then wx w j else w j
theorem stW_16 (w : Nat → BW) : stW w 16 = w := by
  funext j; unfold stW; split
  · exact wx_lo (by assumption)
  · rfl
theorem stW_lt {w : Nat → BW} {i j : Nat} (h : j < i) : stW w i j = wx w j := if_pos h
theorem stW_s (w : Nat → BW) (i : Nat) : va_up (stW w i) i (wx w i) = stW w (i + 1) := by
  funext j; simp only [stW, va_up]
  by_cases h : j = i
  · subst h; rw [if_pos rfl, if_pos (by omega)]
  · rw [if_neg h]
    by_cases h2 : j < i
    · rw [if_pos h2, if_pos (by omega)]
    · rw [if_neg h2, if_neg (by omega)]
theorem stW_v {w : Nat → BW} {i : Nat} (h : 16 ≤ i) : s1 (stW w i (i - 2)) + stW w i (i - 7) + s0 (stW w i (i - 15)) + stW w i (i - 16) = wx w i := by
  rw [stW_lt (by omega), stW_lt (by omega), stW_lt (by omega), stW_lt (by omega)]
  exact (wx_hi h).symm
/-- the first i places are f's -/
def cpW (f f0 : Nat → BW) (i : Nat) : Nat → BW := fun j => if j < i then f j else f0 j
theorem cpW_0 (f f0 : Nat → BW) : cpW f f0 0 = f0 := by funext j; unfold cpW; rw [if_neg (by omega)]
theorem cpW_s (f f0 : Nat → BW) (i : Nat) : va_up (cpW f f0 i) i (f i) = cpW f f0 (i + 1) := by
  funext j; simp only [cpW, va_up]
  by_cases h : j = i
  · subst h; rw [if_pos rfl, if_pos (by omega)]
  · rw [if_neg h]
    by_cases h2 : j < i
    · rw [if_pos h2, if_pos (by omega)]
    · rw [if_neg h2, if_neg (by omega)]
theorem wB_sb (d : Nat → BW) (i : Nat) : (bI (d (i / 4) >>> (24 - 8 * (i % 4)))).toInt8.toInt32 = sb_b (wB d i) := by
  have e : bI (d (i / 4) >>> (24 - 8 * (i % 4))) = nI ((d (i / 4) >>> (24 - 8 * (i % 4))).toNat) := by
    rw [bI_nI, BitVec.ofNat_toNat, BitVec.setWidth_eq]
  rw [e, sb_mod]
  congr 1
  rw [BitVec.toNat_ushiftRight, Nat.shiftRight_eq_div_pow]
  rfl
theorem dg_step {b : Nat → Nat} (hb : ∀ j, b j < 256) {c : Nat} {d d2 w w2 : Nat → BW} (hd : ∀ j, j < 8 → d j = dgN b c j) (hw : ∀ j, j < 64 → w2 j = wx (pW w (fun q => b (c * 64 + q)) 64) j) (h2 : ∀ j, j < 8 → d2 j = d j + rdN w2 d 64 j) : ∀ j, j < 8 → d2 j = dgN b (c + 1) j := by
  intro j hj
  rw [h2 j hj, hd j hj]
  show _ = dgN b c j + rdN (wx (fun i => wd b (c * 64 + 4 * i))) (dgN b c) 64 j
  have e : rdN w2 d 64 j = rdN (wx (fun i => wd b (c * 64 + 4 * i))) (dgN b c) 64 j := by
    refine rdN_cg hd 64 (fun i hi => ?_) j hj
    rw [hw i hi]
    exact wx_cg (fun q hq => pW_64 (fun _ => hb _) hq) i
  rw [e]
theorem pb_cg {t u : Nat → Nat} {n : Nat} (h : ∀ j, j < n → t j = u j) : pb t n = pb u n := by
  funext i
  unfold pb
  by_cases c : i < n
  · rw [if_pos c, if_pos c, h i c]
  · rw [if_neg c, if_neg c]
theorem dW_cg {t u : Nat → Nat} {n : Nat} (h : ∀ j, j < n → t j = u j) : dW t n = dW u n := by unfold dW; rw [pb_cg h]
theorem wB_cg {d e : Nat → BW} (h : ∀ j, j < 8 → d j = e j) {i : Nat} (hi : i < 32) : wB d i = wB e i := by unfold wB; rw [h (i / 4) (by omega)]
theorem nm_cg {t u : Nat → Nat} {n : Nat} (h : ∀ j, j < n → t j = u j) : nm t n = nm u n := by unfold nm dB; rw [dW_cg h]
theorem putF_at {t : Nat → Nat} {n m : Nat} {s : Nat → Nat} {j : Nat} (h : j < m) : putF t n m s (n + j) = s j := by unfold putF; rw [if_pos (by omega), Nat.add_sub_cancel_left]
theorem putF_cg {t : Nat → Nat} {n m : Nat} {s s' : Nat → Nat} (h : ∀ j, j < m → s j = s' j) : putF t n m s = putF t n m s' := by
  funext j; unfold putF; split
  · exact h _ (by omega)
  · rfl
theorem nm_of {t u : Nat → Nat} {n p : Nat} {d1 d2 : Nat → BW} (h1 : ∀ j, j < 8 → d1 j = dW (fun j => t (p + j)) n j) (h2 : ∀ j, j < 8 → d2 j = dW (fun j => putF u 0 32 (wB d1) (0 + j)) 32 j) : ∀ j, j < 32 → wB d2 j = nm (fun j => t (p + j)) n j := by
  intro j hj
  unfold nm dB
  refine wB_cg (fun i hi => ?_) hj
  rw [h2 i hi]
  have e : dW (fun j => putF u 0 32 (wB d1) (0 + j)) 32 = dW (wB (dW (fun j => t (p + j)) n)) 32 := dW_cg (fun q hq => by
    show putF u 0 32 (wB d1) (0 + q) = _
    rw [putF_at hq]
    exact wB_cg h1 hq)
  rw [e]
