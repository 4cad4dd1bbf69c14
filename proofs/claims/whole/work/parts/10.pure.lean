theorem wb_tb (n : Nat) : (lN n).toBitVec = BitVec.ofNat 64 n := rfl
theorem wb_inj {a b : Int64} (h : a.toBitVec = b.toBitVec) : a = b := Int64.toBitVec_inj.mp h
theorem wb_tn {n : Nat} (h : n < 2 ^ 64) : (lN n).toBitVec.toNat = n := by rw [wb_tb, BitVec.toNat_ofNat, Nat.mod_eq_of_lt h]
theorem wb_of (x : Int64) : ∃ n, n < 2 ^ 64 ∧ x = lN n := ⟨x.toBitVec.toNat, x.toBitVec.isLt, wb_inj (by rw [wb_tb]; simp)⟩
theorem wb_of32 (x : Int32) : ∃ n, n < 2 ^ 32 ∧ x = nI n := ⟨x.toBitVec.toNat, x.toBitVec.isLt, Int32.toBitVec_inj.mp (by show _ = BitVec.ofNat 32 _; simp)⟩
theorem wb_c : ∀ k, k < 64 → ((nI k).toInt64 &&& 63) = lN k := by decide +kernel
theorem wb_cu : ∀ k, k < 64 → ((nI k).toInt64.toUInt64 &&& Int64.toUInt64 63) = UInt64.ofNat k := by decide +kernel
theorem wb_sm : ∀ k, k < 64 → (BitVec.ofNat 64 k).smod 64 = BitVec.ofNat 64 k := by decide +kernel
theorem wb_pw {a b : Nat} (h : a ≤ b) : 2 ^ b = 2 ^ a * 2 ^ (b - a) := by rw [← Nat.pow_add]; congr 1; omega
theorem wb_lt2 {a b : Nat} (h : a < b) : 2 ^ a < 2 ^ b := Nat.pow_lt_pow_right (by decide) h
theorem wb_mod (n : Nat) : lN n = lN (n % 2 ^ 64) := wb_inj (by rw [wb_tb, wb_tb]; apply BitVec.eq_of_toNat_eq; rw [BitVec.toNat_ofNat, BitVec.toNat_ofNat, Nat.mod_mod])
theorem wb_shr {n k : Nat} (hn : n < 2 ^ 64) (hk : k < 64) : ((lN n).toUInt64 >>> ((nI k).toInt64.toUInt64 &&& Int64.toUInt64 63)).toInt64 = lN (n / 2 ^ k) := by
  rw [wb_cu k hk]
  apply wb_inj
  apply BitVec.eq_of_toNat_eq
  show ((lN n).toUInt64 >>> UInt64.ofNat k).toNat = (BitVec.ofNat 64 _).toNat
  have h1 : (UInt64.ofNat k).toNat = k := by
    show (BitVec.ofNat 64 k).toNat = k
    rw [BitVec.toNat_ofNat, Nat.mod_eq_of_lt (by omega)]
  have h2 : (lN n).toUInt64.toNat = n := wb_tn hn
  rw [UInt64.toNat_shiftRight, h1, h2, Nat.mod_eq_of_lt hk, Nat.shiftRight_eq_div_pow, BitVec.toNat_ofNat, Nat.mod_eq_of_lt (Nat.lt_of_le_of_lt (Nat.div_le_self _ _) hn)]
theorem wb_shl (n : Nat) {k : Nat} (hk : k < 64) : lN n <<< ((nI k).toInt64 &&& 63) = lN (n * 2 ^ k) := by
  rw [wb_c k hk]
  apply wb_inj
  rw [Int64.toBitVec_shiftLeft, wb_tb, wb_tb, wb_tb, wb_sm k hk]
  apply BitVec.eq_of_toNat_eq
  rw [BitVec.shiftLeft_eq', BitVec.toNat_shiftLeft, BitVec.toNat_ofNat, BitVec.toNat_ofNat, BitVec.toNat_ofNat, Nat.mod_eq_of_lt (show k < 2 ^ 64 by omega), Nat.shiftLeft_eq, Nat.mul_mod, Nat.mod_mod, ← Nat.mul_mod]
theorem wb_and {a b : Nat} (ha : a < 2 ^ 64) (hb : b < 2 ^ 64) : lN a &&& lN b = lN (a &&& b) := by
  apply wb_inj
  rw [Int64.toBitVec_and, wb_tb, wb_tb, wb_tb]
  apply BitVec.eq_of_toNat_eq
  rw [BitVec.toNat_and, BitVec.toNat_ofNat, BitVec.toNat_ofNat, BitVec.toNat_ofNat, Nat.mod_eq_of_lt ha, Nat.mod_eq_of_lt hb, Nat.mod_eq_of_lt (Nat.and_lt_two_pow _ hb)]
theorem wb_or {a b : Nat} (ha : a < 2 ^ 64) (hb : b < 2 ^ 64) : lN a ||| lN b = lN (a ||| b) := by
  apply wb_inj
  rw [Int64.toBitVec_or, wb_tb, wb_tb, wb_tb]
  apply BitVec.eq_of_toNat_eq
  rw [BitVec.toNat_or, BitVec.toNat_ofNat, BitVec.toNat_ofNat, BitVec.toNat_ofNat, Nat.mod_eq_of_lt ha, Nat.mod_eq_of_lt hb, Nat.mod_eq_of_lt (Nat.or_lt_two_pow ha hb)]
theorem wb_mask {n k : Nat} (hn : n < 2 ^ 64) (hk : k < 64) : lN n &&& lN (2 ^ k - 1) = lN (n % 2 ^ k) := by
  rw [wb_and hn (by have := wb_lt2 hk; omega), Nat.and_two_pow_sub_one_eq_mod]
theorem wb_a1 {n : Nat} (hn : n < 2 ^ 64) : lN n &&& 1 = lN (n % 2) := wb_mask (k := 1) hn (by decide)
theorem wb_bit {n k : Nat} (hn : n < 2 ^ 64) (hk : k < 64) : ((lN n).toUInt64 >>> ((nI k).toInt64.toUInt64 &&& Int64.toUInt64 63)).toInt64 &&& 1 = lN (n / 2 ^ k % 2) := by
  rw [wb_shr hn hk, wb_a1 (Nat.lt_of_le_of_lt (Nat.div_le_self _ _) hn)]
theorem u_tn {n : Nat} (h : n < 2 ^ 64) : (UInt64.ofNat n).toNat = n := Nat.mod_eq_of_lt h
theorem g_and {a b c : Nat} (ha : a < 2 ^ 64) (hb : b < 2 ^ 64) (hc : a &&& b = c) : lN a &&& lN b = lN c := by
  subst hc
  have h : UInt64.ofNat a &&& UInt64.ofNat b = UInt64.ofNat (a &&& b) := UInt64.toNat_inj.mp (by rw [UInt64.toNat_and, u_tn ha, u_tn hb, u_tn (Nat.and_lt_two_pow a hb)])
  have h2 := congrArg UInt64.toInt64 h
  exact h2
theorem g_and1 {a : Nat} (ha : a < 2 ^ 64) : lN a &&& 1 = lN (a % 2) := g_and (b := 1) ha (by decide) (Nat.and_two_pow_sub_one_eq_mod a 1)
theorem g_mask {a s p : Nat} (hp : 2 ^ s = p) (hs : s < 64) (ha : a < 2 ^ 64) : lN a &&& lN (p - 1) = lN (a % p) := by
  subst hp
  have := Nat.pow_lt_pow_right (show 1 < 2 by decide) hs
  exact g_and ha (by omega) (Nat.and_two_pow_sub_one_eq_mod a s)
theorem g_or {k p a b : Nat} (hp : 2 ^ k = p) (ha : a < p) (h : b * p + a < 2 ^ 64) : lN (b * p) ||| lN a = lN (b * p + a) := by
  subst hp
  have h1 : b * 2 ^ k ||| a = b * 2 ^ k + a := by rw [← Nat.shiftLeft_eq, Nat.shiftLeft_add_eq_or_of_lt ha]
  have h3 : UInt64.ofNat (b * 2 ^ k) ||| UInt64.ofNat a = UInt64.ofNat (b * 2 ^ k + a) := UInt64.toNat_inj.mp (by rw [UInt64.toNat_or, u_tn (by omega), u_tn (by omega), u_tn h, h1])
  have h2 := congrArg UInt64.toInt64 h3
  exact h2
theorem g_or' {k p a b : Nat} (hp : 2 ^ k = p) (ha : a < p) (h : a + b * p < 2 ^ 64) : lN a ||| lN (b * p) = lN (a + b * p) := by
  rw [Int64.or_comm, g_or hp ha (by omega), Nat.add_comm]
/-! bytes: a byte array of the class holds bf t, an int array of the reference nf t, where t gives numbers below 256 -/
def bf (t : Nat → Nat) : Nat → Int32 := fun j => sb_b (t j)
def nf (t : Nat → Nat) : Nat → Int32 := fun j => nI (t j)
def lf64 (t : Nat → Nat) : Nat → Int64 := fun j => lN (t j)
theorem bf_at (t : Nat → Nat) (j : Nat) : bf t j = sb_b (t j) := rfl
theorem nf_at (t : Nat → Nat) (j : Nat) : nf t j = nI (t j) := rfl
theorem bf_upd (t : Nat → Nat) (i c : Nat) : upd (bf t) i (sb_b c) = bf (va_up t i c) := by
  funext j; simp only [upd, bf, va_up]; split <;> rfl
theorem nf_upd (t : Nat → Nat) (i c : Nat) : upd (nf t) i (nI c) = nf (va_up t i c) := by
  funext j; simp only [upd, nf, va_up]; split <;> rfl
theorem lf_upd (t : Nat → Nat) (i c : Nat) : vp_updL (lf64 t) i (lN c) = lf64 (va_up t i c) := by
  funext j; simp only [vp_updL, lf64, va_up]; split <;> rfl
theorem bf_zero : (fun _ => 0 : Nat → Int32) = bf (fun _ => 0) := by funext j; rfl
theorem sb_and {c : Nat} (h : c < 256) : sb_b c &&& nI 255 = nI c := (sb_byte c h).1
theorem sb_nar (c : Nat) : (sb_b c).toInt8.toInt32 = sb_b c := pk_vb (nI c)
/-- a number that counts down: -1 behind 0 -/
def dn : Nat → Int32
  | 0 => -1
  | r + 1 => nI r
theorem dn_s (r : Nat) : dn (r + 1) = nI r := rfl
theorem dn_dec (r : Nat) : nI r + Int32.ofInt (-1) = dn r := by
  cases r with
  | zero => rfl
  | succ r => exact pk_m1 r
theorem dn_sub (r : Nat) : nI r - nI 1 = dn r := by
  cases r with
  | zero => rfl
  | succ r => exact nI_pred r
/-- byte i of a long, from below -/
def lb (v : Int64) (i : Nat) : Nat := v.toBitVec.toNat / 2 ^ (8 * i) % 256
theorem lb_lt (v : Int64) (i : Nat) : lb v i < 256 := Nat.mod_lt _ (by decide)
theorem sb_mod (m : Nat) : (nI m).toInt8.toInt32 = sb_b (m % 256) := by
  have h : (nI m).toInt8 = (nI (m % 256)).toInt8 := by
    apply Int8.toBitVec_inj.mp
    show (nI m).toBitVec.signExtend 8 = (nI (m % 256)).toBitVec.signExtend 8
    apply BitVec.eq_of_toNat_eq
    rw [BitVec.signExtend_eq_setWidth_of_le _ (by decide), BitVec.signExtend_eq_setWidth_of_le _ (by decide), BitVec.toNat_setWidth, BitVec.toNat_setWidth]
    show (BitVec.ofNat 32 m).toNat % 256 = (BitVec.ofNat 32 (m % 256)).toNat % 256
    rw [BitVec.toNat_ofNat, BitVec.toNat_ofNat]
    omega
  rw [h]; rfl
theorem lb_byte (v : Int64) (i : Nat) (hi : i < 8) : ((v.toUInt64 >>> ((nI (8 * i)).toInt64.toUInt64 &&& Int64.toUInt64 63)).toInt64).toInt32.toInt8.toInt32 = sb_b (lb v i) := by
  obtain ⟨n, hn, rfl⟩ := wb_of v
  rw [wb_shr hn (by omega), lN_i, sb_mod]
  unfold lb
  rw [wb_tn hn]
/-- what stands in a row behind n when m bytes s have come -/
def putF (t : Nat → Nat) (n m : Nat) (s : Nat → Nat) : Nat → Nat := fun j => if n ≤ j ∧ j < n + m then s (j - n) else t j
theorem putF_0 (t : Nat → Nat) (n : Nat) (s : Nat → Nat) : putF t n 0 s = t := by
  funext j; unfold putF; rw [if_neg (by omega)]
theorem putF_s (t : Nat → Nat) (n m : Nat) (s : Nat → Nat) : va_up (putF t n m s) (n + m) (s m) = putF t n (m + 1) s := by
  funext j; simp only [putF, va_up]
  by_cases h : j = n + m
  · subst h; rw [if_pos rfl, if_pos (by omega), Nat.add_sub_cancel_left]
  · rw [if_neg h]
    by_cases h2 : n ≤ j ∧ j < n + m
    · rw [if_pos h2, if_pos (by omega)]
    · rw [if_neg h2, if_neg (by omega)]
theorem putF_lt {t : Nat → Nat} {n m : Nat} {s : Nat → Nat} (ht : ∀ j, t j < 256) (hs : ∀ j, s j < 256) : ∀ j, putF t n m s j < 256 := by
  intro j; unfold putF; split
  · exact hs _
  · exact ht j
/-- the first i places are f's -/
def cpT (f f0 : Nat → Nat) (i : Nat) : Nat → Nat := fun j => if j < i then f j else f0 j
theorem cpT_0 (f f0 : Nat → Nat) : cpT f f0 0 = f0 := by funext j; unfold cpT; rw [if_neg (by omega)]
theorem cpT_s (f f0 : Nat → Nat) (i : Nat) : va_up (cpT f f0 i) i (f i) = cpT f f0 (i + 1) := by
  funext j; simp only [cpT, va_up]
  by_cases h : j = i
  · subst h; rw [if_pos rfl, if_pos (by omega)]
  · rw [if_neg h]
    by_cases h2 : j < i
    · rw [if_pos h2, if_pos (by omega)]
    · rw [if_neg h2, if_neg (by omega)]
/-- k bytes from p on, low first -/
def lf (t : Nat → Nat) : Nat → Nat → Nat
  | _, 0 => 0
  | p, k + 1 => t p + 256 * lf t (p + 1) k
theorem lf_lt {t : Nat → Nat} (ht : ∀ j, t j < 256) : ∀ (k p : Nat), lf t p k < 256 ^ k
  | 0, p => Nat.one_pos
  | k + 1, p => by
    have h1 := lf_lt ht k (p + 1)
    have h2 := ht p
    rw [Nat.pow_succ]
    show t p + 256 * lf t (p + 1) k < _
    omega
theorem lf_cg {t u : Nat → Nat} : ∀ (k p : Nat), (∀ j, p ≤ j → j < p + k → t j = u j) → lf t p k = lf u p k
  | 0, p, _ => rfl
  | k + 1, p, h => by
    show t p + 256 * lf t (p + 1) k = u p + 256 * lf u (p + 1) k
    rw [h p (Nat.le_refl _) (by omega), lf_cg k (p + 1) (fun j h1 h2 => h j (by omega) (by omega))]
/-- a long that takes one byte more at its low end -/
theorem lN_push {a c : Nat} (ha : a < 2 ^ 56) (hc : c < 256) : (lN a <<< ((nI 8).toInt64 &&& 63)) ||| lN c = lN (a * 256 + c) := by
  rw [wb_shl a (by decide)]
  exact g_or (k := 8) rfl hc (by omega)
/-- an index as the class looks at it -/
def atI (T : Nat → Nat) (n : Nat) (x : Int32) : Int32 := if 0 ≤ x ∧ x < nI n then nI (T x.toNatClampNeg) else -1
theorem atI_in {T : Nat → Nat} {n p : Nat} (h : p < n) (hn : n < 2 ^ 31) : atI T n (nI p) = nI (T p) := by
  unfold atI
  rw [if_pos ⟨nI_pos' (by omega), nI_lt h hn⟩, nI_clamp (by omega)]
theorem atI_neg {T : Nat → Nat} {n : Nat} {x : Int32} (h : x < 0) : atI T n x = -1 := by
  unfold atI
  rw [if_neg]
  intro q
  have h1 := q.1
  rw [Int32.le_iff_toInt_le] at h1
  rw [Int32.lt_iff_toInt_lt] at h
  omega
theorem atI_big {T : Nat → Nat} {n : Nat} {x : Int32} (h : nI n ≤ x) : atI T n x = -1 := by
  unfold atI
  rw [if_neg]
  intro q
  have h1 := q.2
  rw [Int32.le_iff_toInt_le] at h
  rw [Int32.lt_iff_toInt_lt] at h1
  omega
theorem lf_push {t : Nat → Nat} (hT : ∀ j, t j < 256) {p k r : Nat} (h : r < k) (hk : k ≤ 8) : (lN (lf t (p + (r + 1)) (k - (r + 1))) <<< ((nI 8).toInt64 &&& 63)) ||| lN (t (p + r)) = lN (lf t (p + r) (k - r)) := by
  have h1 := lf_lt hT (k - (r + 1)) (p + (r + 1))
  have h2 : 256 ^ (k - (r + 1)) ≤ 256 ^ 7 := Nat.pow_le_pow_right (by decide) (by omega)
  rw [lN_push (Nat.lt_of_lt_of_le h1 (Nat.le_trans h2 (by decide))) (hT _)]
  obtain ⟨d, hd⟩ : ∃ d, k - r = d + 1 := ⟨k - r - 1, by omega⟩
  rw [hd, show k - (r + 1) = d by omega, ← Nat.add_assoc]
  show lN (lf t (p + r + 1) d * 256 + t (p + r)) = lN (t (p + r) + 256 * lf t (p + r + 1) d)
  congr 1
  omega
