/-! SHA-256 in the reference: words as longs -/
def bn (d : Nat → BW) : Nat → Nat := fun j => (d j).toNat
theorem bn_upd (d : Nat → BW) (i : Nat) (c : BW) : va_up (bn d) i c.toNat = bn (va_up d i c) := by
  funext j; simp only [bn, va_up]; split <;> rfl
theorem vu_vu {α : Type} (f : Nat → α) (i : Nat) (x y : α) : va_up (va_up f i x) i y = va_up f i y := by
  funext j; simp only [va_up]; split <;> rfl
/-- the row of ten: eight words, what was there behind them -/
def mx (d : Nat → BW) (Y : Nat → Nat) : Nat → Nat := fun j => if j < 8 then (d j).toNat else Y j
def cpN (d : Nat → BW) (Y : Nat → Nat) (i : Nat) : Nat → Nat := fun j => if j < i then (d j).toNat else Y j
theorem cpN_0 (d : Nat → BW) (Y : Nat → Nat) : cpN d Y 0 = Y := by funext j; unfold cpN; rw [if_neg (by omega)]
theorem cpN_s (d : Nat → BW) (Y : Nat → Nat) (i : Nat) : va_up (cpN d Y i) i (d i).toNat = cpN d Y (i + 1) := by
  funext j; simp only [cpN, va_up]
  by_cases h : j = i
  · subst h; rw [if_pos rfl, if_pos (by omega)]
  · rw [if_neg h]
    by_cases h2 : j < i
    · rw [if_pos h2, if_pos (by omega)]
    · rw [if_neg h2, if_neg (by omega)]
theorem mx_upd (d : Nat → BW) (Y : Nat → Nat) {i : Nat} (c : BW) (hi : i < 8) : va_up (mx d Y) i c.toNat = mx (va_up d i c) Y := by
  funext j; simp only [mx, va_up]
  by_cases h : j = i
  · subst h; rw [if_pos rfl, if_pos hi, if_pos rfl]
  · rw [if_neg h, if_neg h]
section JW2
variable {g : JX} {κ : JK} {cc : ByteArray} {own : String} {rm : Room} {nL pc cells slots : Nat} {lv : List (Nat × Value)} {rest : List Value} {ws : va_W}
theorem lN_xorW (a b : BW) : lN a.toNat ^^^ lN b.toNat = lN (a ^^^ b).toNat := by
  apply wb_inj
  rw [Int64.toBitVec_xor, wb_tb, wb_tb, wb_tb]
  apply BitVec.eq_of_toNat_eq
  have h1 := a.isLt; have h2 := b.isLt; have h3 := (a ^^^ b).isLt
  rw [BitVec.toNat_xor, BitVec.toNat_ofNat, BitVec.toNat_ofNat, BitVec.toNat_ofNat, Nat.mod_eq_of_lt (by omega), Nat.mod_eq_of_lt (by omega), Nat.mod_eq_of_lt (by omega), BitVec.toNat_xor]
theorem lN_andW (a b : BW) : lN a.toNat &&& lN b.toNat = lN (a &&& b).toNat := by
  have h1 := a.isLt; have h2 := b.isLt
  rw [wb_and (by omega) (by omega), BitVec.toNat_and]
theorem j_lxorW (C : j_C g κ cc own rm nL) {a b : BW} (hdg : decode cc pc = .ok (.lxor, 1)) (k9 : j_V g κ cells slots (pc + 1) lv (.long (lN (a ^^^ b).toNat) :: rest) ws) : j_V g κ cells slots pc lv (.long (lN b.toNat) :: .long (lN a.toNat) :: rest) ws := j_lxor C hdg (j_rwl (lN_xorW a b) k9)
theorem j_landW (C : j_C g κ cc own rm nL) {a b : BW} (hdg : decode cc pc = .ok (.land, 1)) (k9 : j_V g κ cells slots (pc + 1) lv (.long (lN (a &&& b).toNat) :: rest) ws) : j_V g κ cells slots pc lv (.long (lN b.toNat) :: .long (lN a.toNat) :: rest) ws := j_land C hdg (j_rwl (lN_andW a b) k9)
theorem j_lastW (C : j_C g κ cc own rm nL) (q0 t0 : Nat) {a n : Nat} {cA : ClassId} {d : Nat → BW} (ha : ws[q0]? = some (a, .inl (cA, n, .inr (.inl (lf64 (bn d)))))) (ht : (jT g)[t0]? = some (cA, .long)) {i : Nat} {c : BW} (hi : i < n) (hn : n < 2 ^ 31) {ws' : va_W} (hw : ws.set q0 (a, .inl (cA, n, .inr (.inl (lf64 (bn (va_up d i c)))))) = ws') (hdg : decode cc pc = .ok (.lastore, 1)) (k9 : j_V g κ cells slots (pc + 1) lv rest ws') : j_V g κ cells slots pc lv (.long (lN c.toNat) :: .int (nI i) :: .ref a :: rest) ws :=
  j_lastB C q0 t0 ha ht hi hn (by rw [bn_upd]; exact hw) hdg k9
theorem j_lastX (C : j_C g κ cc own rm nL) (q0 t0 : Nat) {a n : Nat} {cA : ClassId} {d : Nat → BW} {Y : Nat → Nat} (ha : ws[q0]? = some (a, .inl (cA, n, .inr (.inl (lf64 (mx d Y)))))) (ht : (jT g)[t0]? = some (cA, .long)) {i : Nat} {c : BW} (hi : i < 8 ∧ i < n) (hn : n < 2 ^ 31) {ws' : va_W} (hw : ws.set q0 (a, .inl (cA, n, .inr (.inl (lf64 (mx (va_up d i c) Y))))) = ws') (hdg : decode cc pc = .ok (.lastore, 1)) (k9 : j_V g κ cells slots (pc + 1) lv rest ws') : j_V g κ cells slots pc lv (.long (lN c.toNat) :: .int (nI i) :: .ref a :: rest) ws :=
  j_lastB C q0 t0 ha ht hi.2 hn (by rw [mx_upd d Y c hi.1]; exact hw) hdg k9
end JW2
theorem turn_v (b : BW) {k r : Nat} (h : k + r = 32) (h0 : 0 < r) (h1 : 0 < k) : b.toNat * 2 ^ k % 4294967296 + b.toNat / 2 ^ (32 - k) = (b.rotateRight r).toNat := by
  rw [BitVec.rotateRight_def, Nat.mod_eq_of_lt (show r < 32 by omega), BitVec.toNat_or, BitVec.toNat_ushiftRight, BitVec.toNat_shiftLeft, Nat.shiftRight_eq_div_pow, Nat.shiftLeft_eq, show 32 - r = k by omega, show 32 - k = r by omega]
  have e : b.toNat * 2 ^ k % 2 ^ 32 = b.toNat % 2 ^ r * 2 ^ k := by
    rw [show (2 : Nat) ^ 32 = 2 ^ r * 2 ^ k by rw [← Nat.pow_add, show r + k = 32 by omega], Nat.mul_mod_mul_right]
  have hlt : b.toNat / 2 ^ r < 2 ^ k := by
    apply Nat.div_lt_of_lt_mul
    rw [← Nat.pow_add, show r + k = 32 by omega]
    exact b.isLt
  show b.toNat * 2 ^ k % 2 ^ 32 + _ = _
  rw [e, Nat.or_comm, ← Nat.shiftLeft_eq, Nat.shiftLeft_add_eq_or_of_lt hlt]
theorem not_v (b : BW) : 4294967295 - b.toNat = (~~~ b).toNat := by rw [BitVec.toNat_not]
theorem shr_v (b : BW) (k : Nat) : b.toNat / 2 ^ k = (b >>> k).toNat := by rw [BitVec.toNat_ushiftRight, Nat.shiftRight_eq_div_pow]
theorem wd_be (b : Nat → Nat) (e : Nat) : BitVec.ofNat 32 (be b e 4) = wd b e := by
  have h : be b e 4 = ((b e * 256 + b (e + 1)) * 256 + b (e + 2)) * 256 + b (e + 3) := by
    show (((0 * 256 + b (e + 0)) * 256 + b (e + 1)) * 256 + b (e + 2)) * 256 + b (e + 3) = _
    rw [Nat.zero_mul, Nat.zero_add, Nat.add_zero]
  rw [h]; rfl
theorem be_bv {b : Nat → Nat} (hb : ∀ j, b j < 256) {e k : Nat} (hk : k ≤ 4) : be b e k = (BitVec.ofNat 32 (be b e k)).toNat := by
  have h1 := be_lt hb e k
  have h2 : 256 ^ k ≤ 256 ^ 4 := Nat.pow_le_pow_right (by decide) hk
  rw [BitVec.toNat_ofNat, Nat.mod_eq_of_lt (Nat.lt_of_lt_of_le h1 h2)]
theorem wx_sum (a b c d : BW) : (d.toNat + c.toNat + b.toNat + a.toNat) % 4294967296 = (a + b + c + d).toNat := by
  simp only [BitVec.toNat_add]; omega
theorem sum2 (a b : BW) : (a.toNat + b.toNat) % 4294967296 = (a + b).toNat := by
  simp only [BitVec.toNat_add]
theorem rd_s4 (x a b c d e : BW) : (x.toNat + (a.toNat + b.toNat + c.toNat + d.toNat + e.toNat)) % 4294967296 = (x + (a + b + c + d + e)).toNat := by
  simp only [BitVec.toNat_add]; omega
theorem rd_s0 (x y a b c d e : BW) : (a.toNat + b.toNat + c.toNat + d.toNat + e.toNat + (x.toNat + y.toNat)) % 4294967296 = (a + b + c + d + e + x + y).toNat := by
  simp only [BitVec.toNat_add]; omega
theorem dgN_cg {b b' : Nat → Nat} : ∀ (c : Nat), (∀ i, i < 64 * c → b i = b' i) → dgN b c = dgN b' c
  | 0, _ => rfl
  | c + 1, h => by
    have ih := dgN_cg c (fun i hi => h i (by omega))
    funext j
    show dgN b c j + rdN (wx (fun i => wd b (c * 64 + 4 * i))) (dgN b c) 64 j = dgN b' c j + rdN (wx (fun i => wd b' (c * 64 + 4 * i))) (dgN b' c) 64 j
    rw [ih]
    have e : ∀ i, i < 16 → wd b (c * 64 + 4 * i) = wd b' (c * 64 + 4 * i) := by
      intro i hi; unfold wd; rw [h _ (by omega), h _ (by omega), h _ (by omega), h _ (by omega)]
    rw [show wx (fun i => wd b (c * 64 + 4 * i)) = wx (fun i => wd b' (c * 64 + 4 * i)) from funext (wx_cg e)]
theorem up_s {α : Type} {Q f : Nat → α} {i : Nat} {c : α} (h : ∀ j, j < i → Q j = f j) (hc : c = f i) : ∀ j, j < i + 1 → va_up Q i c j = f j := by
  intro j hj
  by_cases e : j = i
  · subst e; rw [va_up_self]; exact hc
  · rw [va_up_ne _ _ e]; exact h j (by omega)
theorem up_lt {Q : Nat → Nat} {i c : Nat} (h : ∀ j, Q j < 256) (hc : c < 256) : ∀ j, va_up Q i c j < 256 := by
  intro j; unfold va_up; split
  · exact hc
  · exact h j
theorem pb_z {t : Nat → Nat} {n i : Nat} (h : n < i) (h2 : i < ((n + 8) / 64 + 1) * 64 - 8) : pb t n i = 0 := pb_4 h (by unfold pLast; omega)
theorem pb_l {t : Nat → Nat} {n k : Nat} (hn : n < 2 ^ 20) (hk : k < 8) (hi : n < ((n + 8) / 64 + 1) * 64 - 8 + k) : lb (lN (8 * n)) (7 - k) = pb t n (((n + 8) / 64 + 1) * 64 - 8 + k) := by
  rw [lb_lN (by omega)]
  by_cases c : 4 ≤ k
  · rw [pb_3 hi (by unfold pLast; omega), show pLast n - (((n + 8) / 64 + 1) * 64 - 8 + k) = 7 - k by unfold pLast; omega, Nat.mul_comm]
  · rw [pb_4 hi (by unfold pLast; omega)]
    have h1 : (2 : Nat) ^ 32 ≤ 2 ^ (8 * (7 - k)) := Nat.pow_le_pow_right (by decide) (by omega)
    rw [Nat.div_eq_of_lt (by omega)]
theorem wB_v (d : Nat → BW) (i : Nat) : lb (lN (d (i / 4)).toNat) (3 - i % 4) = wB d i := by
  have h := (d (i / 4)).isLt
  rw [lb_lN (by omega)]
  unfold wB
  rw [show 8 * (3 - i % 4) = 24 - 8 * (i % 4) by omega]
def hS (H Y : Nat → BW) (i : Nat) : Nat → BW := fun j => if j < i then H j + Y j else H j
theorem hS_0 (H Y : Nat → BW) : hS H Y 0 = H := by funext j; unfold hS; rw [if_neg (by omega)]
theorem hS_s (H Y : Nat → BW) (i : Nat) : va_up (hS H Y i) i (H i + Y i) = hS H Y (i + 1) := by
  funext j; simp only [hS, va_up]
  by_cases h : j = i
  · subst h; rw [if_pos rfl, if_pos (by omega)]
  · rw [if_neg h]
    by_cases h2 : j < i
    · rw [if_pos h2, if_pos (by omega)]
    · rw [if_neg h2, if_neg (by omega)]
theorem hS_at {H Y : Nat → BW} {i : Nat} : hS H Y i i = H i := by unfold hS; rw [if_neg (Nat.lt_irrefl _)]
