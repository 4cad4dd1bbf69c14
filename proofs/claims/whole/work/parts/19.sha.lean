/-! SHA-256 over words of 32 bits -/
abbrev BW : Type := BitVec 32
def bI (b : BW) : Int32 := Int32.ofBitVec b
def wf (d : Nat → BW) : Nat → Int32 := fun j => bI (d j)
theorem wf_upd (d : Nat → BW) (i : Nat) (c : BW) : upd (wf d) i (bI c) = wf (va_up d i c) := by
  funext j; simp only [upd, wf, va_up]; split <;> rfl
theorem bI_add (a b : BW) : bI a + bI b = bI (a + b) := rfl
theorem bI_xor (a b : BW) : bI a ^^^ bI b = bI (a ^^^ b) := rfl
theorem bI_and (a b : BW) : bI a &&& bI b = bI (a &&& b) := rfl
theorem bI_or (a b : BW) : bI a ||| bI b = bI (a ||| b) := rfl
theorem bI_of (x : Int32) : bI x.toBitVec = x := rfl
theorem bI_nI (n : Nat) : nI n = bI (BitVec.ofNat 32 n) := rfl
theorem bI_not (a : BW) : bI a ^^^ (-1) = bI (~~~ a) := by
  show bI (a ^^^ BitVec.allOnes 32) = _
  rw [BitVec.xor_allOnes]
theorem sh_u : ∀ n, n < 32 → (((nI n).toUInt32 &&& Int32.toUInt32 31).toBitVec % 32).toNat = n := by decide +kernel
theorem sh_l : ∀ n, n < 32 → ((nI n &&& 31).toBitVec.smod 32).toNat = n := by decide +kernel
theorem bI_ushr (a : BW) {k : Nat} (hk : k < 32) : ((bI a).toUInt32 >>> ((nI k).toUInt32 &&& Int32.toUInt32 31)).toInt32 = bI (a >>> k) := by
  apply Int32.toBitVec_inj.mp
  apply BitVec.eq_of_toNat_eq
  rw [pk_ushr (bI a) (nI k) k (sh_u k hk)]
  show a.toNat / 2 ^ k = (a >>> k).toNat
  rw [BitVec.toNat_ushiftRight, Nat.shiftRight_eq_div_pow]
theorem bI_shl (a : BW) {k : Nat} (hk : k < 32) : bI a <<< (nI k &&& 31) = bI (a <<< k) := by
  apply Int32.toBitVec_inj.mp
  apply BitVec.eq_of_toNat_eq
  rw [pk_shl (bI a) (nI k &&& 31) k (sh_l k hk)]
  show a.toNat * 2 ^ k % 2 ^ 32 = (a <<< k).toNat
  rw [BitVec.toNat_shiftLeft, Nat.shiftLeft_eq]
theorem bI_turn (a : BW) {k : Nat} (h0 : 0 < k) (hk : k < 32) : bI (a >>> k) ||| (bI a <<< (nI (32 - k) &&& 31)) = bI (a.rotateRight k) := by
  rw [bI_shl a (by omega), bI_or]
  congr 1
  rw [BitVec.rotateRight_def, Nat.mod_eq_of_lt hk]
def s0 (b : BW) : BW := b.rotateRight 7 ^^^ b.rotateRight 18 ^^^ (b >>> 3)
def s1 (b : BW) : BW := b.rotateRight 17 ^^^ b.rotateRight 19 ^^^ (b >>> 10)
def S1 (e : BW) : BW := e.rotateRight 6 ^^^ e.rotateRight 11 ^^^ e.rotateRight 25
def S0 (a : BW) : BW := a.rotateRight 2 ^^^ a.rotateRight 13 ^^^ a.rotateRight 22
def ch (e f g : BW) : BW := (e &&& f) ^^^ (~~~ e &&& g)
def maj (a b c : BW) : BW := (a &&& b) ^^^ (a &&& c) ^^^ (b &&& c)
def wx (m : Nat → BW) (i : Nat) : BW := if i < 16 then m i else s1 (wx m (i - 2)) + wx m (i - 7) + s0 (wx m (i - 15)) + wx m (i - 16)
termination_by i
decreasing_by all_goals omega
theorem wx_lo {m : Nat → BW} {i : Nat} (h : i < 16) : wx m i = m i := by rw [wx, if_pos h]
theorem wx_hi {m : Nat → BW} {i : Nat} (h : 16 ≤ i) : wx m i = s1 (wx m (i - 2)) + wx m (i - 7) + s0 (wx m (i - 15)) + wx m (i - 16) := by rw [wx, if_neg (by omega)]
theorem wx_cg {m m' : Nat → BW} (h : ∀ j, j < 16 → m j = m' j) : ∀ i, wx m i = wx m' i := by
  intro i
  induction i using Nat.strongRecOn with
  | _ i ih =>
    by_cases c : i < 16
    · rw [wx_lo c, wx_lo c, h i c]
    · rw [wx_hi (m := m) (i := i) (by omega), wx_hi (m := m') (i := i) (by omega), ih (i - 2) (by omega), ih (i - 7) (by omega), ih (i - 15) (by omega), ih (i - 16) (by omega)]
/-- constants -/
def cK (i : Nat) : BW := (kROUND.getD i 0).toBitVec
def cH (i : Nat) : BW := (kSTART.getD i 0).toBitVec
/-- one round -/
def t1 (k w : BW) (s : Nat → BW) : BW := s 7 + S1 (s 4) + ch (s 4) (s 5) (s 6) + k + w
def rdF (k w : BW) (s : Nat → BW) : Nat → BW
  | 0 => t1 k w s + S0 (s 0) + maj (s 0) (s 1) (s 2)
  | 1 => s 0
  | 2 => s 1
  | 3 => s 2
  | 4 => s 3 + t1 k w s
  | 5 => s 4
  | 6 => s 5
  | _ => s 6
def rdN (w : Nat → BW) (d : Nat → BW) : Nat → Nat → BW
  | 0 => d
  | i + 1 => rdF (cK i) (w i) (rdN w d i)
theorem rdF_cg {k w : BW} {s s' : Nat → BW} (h : ∀ j, j < 8 → s j = s' j) : ∀ j, j < 8 → rdF k w s j = rdF k w s' j := by
  have e0 := h 0 (by omega); have e1 := h 1 (by omega); have e2 := h 2 (by omega); have e3 := h 3 (by omega); have e4 := h 4 (by omega); have e5 := h 5 (by omega); have e6 := h 6 (by omega); have e7 := h 7 (by omega)
  have et : t1 k w s = t1 k w s' := by unfold t1; rw [e4, e5, e6, e7]
  intro j hj
  match j, hj with
  | 0, _ => show t1 k w s + S0 (s 0) + maj (s 0) (s 1) (s 2) = t1 k w s' + S0 (s' 0) + maj (s' 0) (s' 1) (s' 2); rw [et, e0, e1, e2]
  | 1, _ => exact e0
  | 2, _ => exact e1
  | 3, _ => exact e2
  | 4, _ => show s 3 + t1 k w s = s' 3 + t1 k w s'; rw [et, e3]
  | 5, _ => exact e4
  | 6, _ => exact e5
  | 7, _ => exact e6
theorem rdN_cg {w w' d d' : Nat → BW} (hd : ∀ j, j < 8 → d j = d' j) : ∀ (i : Nat), (∀ j, j < i → w j = w' j) → ∀ j, j < 8 → rdN w d i j = rdN w' d' i j
  | 0, _ => hd
  | i + 1, hw => by
    intro j hj
    show rdF (cK i) (w i) (rdN w d i) j = rdF (cK i) (w' i) (rdN w' d' i) j
    rw [hw i (by omega)]
    exact rdF_cg (rdN_cg hd i (fun j h => hw j (by omega))) j hj
/-- a message's bytes with what comes behind them -/
def pLast (n : Nat) : Nat := ((n + 8) / 64 + 1) * 64 - 1
def pb (t : Nat → Nat) (n i : Nat) : Nat := if i < n then t i else if i = n then 128 else if pLast n - 4 < i then n * 8 / 2 ^ (8 * (pLast n - i)) % 256 else 0
theorem pb_lt {t : Nat → Nat} (hT : ∀ j, t j < 256) (n i : Nat) : pb t n i < 256 := by
  unfold pb
  split
  · exact hT i
  · split
    · decide
    · split
      · exact Nat.mod_lt _ (by decide)
      · decide
def push (x : BW) (b : Nat) : BW := (x <<< 8) ||| BitVec.ofNat 32 b
def ps (x : BW) (m : Nat → Nat) : Nat → BW
  | 0 => x
  | k + 1 => push (ps x m k) (m k)
def wd (b : Nat → Nat) (i : Nat) : BW := BitVec.ofNat 32 (((b i * 256 + b (i + 1)) * 256 + b (i + 2)) * 256 + b (i + 3))
theorem push_n (x : BW) {b : Nat} (hb : b < 256) : (push x b).toNat = (x.toNat * 256 + b) % 2 ^ 32 := by
  unfold push
  rw [BitVec.toNat_or, BitVec.toNat_shiftLeft, BitVec.toNat_ofNat, Nat.shiftLeft_eq, Nat.mod_eq_of_lt (show b < 2 ^ 32 by omega)]
  have e : x.toNat * 2 ^ 8 % 2 ^ 32 = (x.toNat % 2 ^ 24) * 2 ^ 8 := by omega
  rw [e, ← Nat.shiftLeft_eq, ← Nat.shiftLeft_add_eq_or_of_lt (show b < 2 ^ 8 by omega), Nat.shiftLeft_eq]
  omega
theorem ps_4 (x : BW) {m : Nat → Nat} (hm : ∀ j, m j < 256) : ps x m 4 = BitVec.ofNat 32 (((m 0 * 256 + m 1) * 256 + m 2) * 256 + m 3) := by
  apply BitVec.eq_of_toNat_eq
  show (push (push (push (push x (m 0)) (m 1)) (m 2)) (m 3)).toNat = _
  have h0 := hm 0; have h1 := hm 1; have h2 := hm 2; have h3 := hm 3
  rw [push_n _ h3, push_n _ h2, push_n _ h1, push_n _ h0, BitVec.toNat_ofNat]
  omega
/-- the row of words while its bytes come -/
def pW (w0 : Nat → BW) (b : Nat → Nat) (i : Nat) : Nat → BW := fun j => ps (w0 j) (fun q => b (4 * j + q)) (min 4 (i - 4 * j))
theorem pW_0 (w0 : Nat → BW) (b : Nat → Nat) : pW w0 b 0 = w0 := by
  funext j; unfold pW; rw [show min 4 (0 - 4 * j) = 0 by omega]; rfl
theorem pW_s (w0 : Nat → BW) (b : Nat → Nat) (i : Nat) : va_up (pW w0 b i) (i / 4) (push (pW w0 b i (i / 4)) (b i)) = pW w0 b (i + 1) := by
  funext j
  simp only [va_up]
  by_cases h : j = i / 4
  · rw [if_pos h]
    subst h
    unfold pW
    rw [show min 4 (i + 1 - 4 * (i / 4)) = min 4 (i - 4 * (i / 4)) + 1 by omega]
    show push _ _ = push _ _
    congr 1
    congr 1
    omega
  · rw [if_neg h]
    unfold pW
    rw [show min 4 (i + 1 - 4 * j) = min 4 (i - 4 * j) by omega]
theorem pW_64 {w0 : Nat → BW} {b : Nat → Nat} (hb : ∀ j, b j < 256) {j : Nat} (hj : j < 16) : pW w0 b 64 j = wd b (4 * j) := by
  unfold pW
  rw [show min 4 (64 - 4 * j) = 4 by omega, ps_4 _ (fun q => hb _)]
  rfl
/-- the digest's words -/
def dgN (b : Nat → Nat) : Nat → Nat → BW
  | 0 => cH
  | c + 1 => fun j => dgN b c j + rdN (wx (fun i => wd b (c * 64 + 4 * i))) (dgN b c) 64 j
def dW (t : Nat → Nat) (n : Nat) : Nat → BW := dgN (pb t n) ((n + 8) / 64 + 1)
def wB (d : Nat → BW) (i : Nat) : Nat := (d (i / 4)).toNat / 2 ^ (24 - 8 * (i % 4)) % 256
theorem wB_lt (d : Nat → BW) (i : Nat) : wB d i < 256 := Nat.mod_lt _ (by decide)
def dB (t : Nat → Nat) (n : Nat) : Nat → Nat := wB (dW t n)
/-- a name's bytes -/
def nm (t : Nat → Nat) (n : Nat) : Nat → Nat := dB (dB t n) 32
section JW
variable {g : JX} {κ : JK} {cc : ByteArray} {own : String} {rm : Room} {nL pc cells slots : Nat} {lv : List (Nat × Value)} {rest : List Value} {ws : va_W}
theorem j_iaddW (C : j_C g κ cc own rm nL) {a b : BW} (hdg : decode cc pc = .ok (.iadd, 1)) (k9 : j_V g κ cells slots (pc + 1) lv (.int (bI (a + b)) :: rest) ws) : j_V g κ cells slots pc lv (.int (bI b) :: .int (bI a) :: rest) ws := j_iadd C hdg k9
theorem j_ixorW (C : j_C g κ cc own rm nL) {a b : BW} (hdg : decode cc pc = .ok (.ixor, 1)) (k9 : j_V g κ cells slots (pc + 1) lv (.int (bI (a ^^^ b)) :: rest) ws) : j_V g κ cells slots pc lv (.int (bI b) :: .int (bI a) :: rest) ws := j_ixor C hdg k9
theorem j_iandW (C : j_C g κ cc own rm nL) {a b : BW} (hdg : decode cc pc = .ok (.iand, 1)) (k9 : j_V g κ cells slots (pc + 1) lv (.int (bI (a &&& b)) :: rest) ws) : j_V g κ cells slots pc lv (.int (bI b) :: .int (bI a) :: rest) ws := j_iand C hdg k9
theorem j_inotW (C : j_C g κ cc own rm nL) {a : BW} (hdg : decode cc pc = .ok (.ixor, 1)) (k9 : j_V g κ cells slots (pc + 1) lv (.int (bI (~~~ a)) :: rest) ws) : j_V g κ cells slots pc lv (.int (-1) :: .int (bI a) :: rest) ws := j_ixor C hdg (j_rwi (bI_not a) k9)
theorem j_iushrW (C : j_C g κ cc own rm nL) {a : BW} {k : Nat} (hk : k < 32) (hdg : decode cc pc = .ok (.iushr, 1)) (k9 : j_V g κ cells slots (pc + 1) lv (.int (bI (a >>> k)) :: rest) ws) : j_V g κ cells slots pc lv (.int (nI k) :: .int (bI a) :: rest) ws := j_iushr C hdg (bI_ushr a hk) k9
theorem j_ishlW (C : j_C g κ cc own rm nL) {a : BW} {k : Nat} (hk : k < 32) (hdg : decode cc pc = .ok (.ishl, 1)) (k9 : j_V g κ cells slots (pc + 1) lv (.int (bI (a <<< k)) :: rest) ws) : j_V g κ cells slots pc lv (.int (nI k) :: .int (bI a) :: rest) ws := j_ishl C hdg (j_rwi (bI_shl a hk) k9)
theorem j_iorWN (C : j_C g κ cc own rm nL) {a : BW} {k : Nat} (hdg : decode cc pc = .ok (.ior, 1)) (k9 : j_V g κ cells slots (pc + 1) lv (.int (bI (a ||| BitVec.ofNat 32 k)) :: rest) ws) : j_V g κ cells slots pc lv (.int (nI k) :: .int (bI a) :: rest) ws := j_ior C hdg k9
theorem j_iastW (C : j_C g κ cc own rm nL) (q0 t0 : Nat) {a n : Nat} {cA : ClassId} {d : Nat → BW} (ha : ws[q0]? = some (a, .inl (cA, n, .inl (wf d)))) (ht : (jT g)[t0]? = some (cA, .int)) {i : Nat} {c : BW} (hi : i < n) (hn : n < 2 ^ 31) {ws' : va_W} (hw : ws.set q0 (a, .inl (cA, n, .inl (wf (va_up d i c)))) = ws') (hdg : decode cc pc = .ok (.iastore, 1)) (k9 : j_V g κ cells slots (pc + 1) lv rest ws') : j_V g κ cells slots pc lv (.int (bI c) :: .int (nI i) :: .ref a :: rest) ws :=
  j_iastN C q0 t0 ha ht hi hn (by rw [wf_upd]; exact hw) hdg k9
theorem j_taldR (C : j_C g κ cc own rm nL) {i : Nat} (hi : i < 64) (hdg : decode cc pc = .ok (.iaload, 1)) (k9 : j_V g κ cells slots (pc + 1) lv (.int (bI (cK i)) :: rest) ws) : j_V g κ cells slots pc lv (.int (nI i) :: .ref (tR g) :: rest) ws :=
  j_tald C C.2.2.2.2.2.2.2.2.2.2.2.2.2.1 (vp_in_nI hi (by decide)) (by rw [nI_clamp (by omega)]; rfl) hdg k9
theorem j_taldS (C : j_C g κ cc own rm nL) {i : Nat} (hi : i < 8) (hdg : decode cc pc = .ok (.iaload, 1)) (k9 : j_V g κ cells slots (pc + 1) lv (.int (bI (cH i)) :: rest) ws) : j_V g κ cells slots pc lv (.int (nI i) :: .ref (tS g) :: rest) ws :=
  j_tald C C.2.2.2.2.2.2.2.2.2.2.2.1 (vp_in_nI hi (by decide)) (by rw [nI_clamp (by omega)]; rfl) hdg k9
end JW
