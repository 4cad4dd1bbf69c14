/-! what the calls answer -/
def pOk (n : Nat) (x : Int32) : Bool := decide (1 ≤ x.toInt ∧ x.toInt ≤ 8 ∧ (n : Int) + x.toInt ≤ 2000)
theorem pOk_t {n k : Nat} (h1 : 1 ≤ k) (h2 : k ≤ 8) (h3 : n + k ≤ 2000) : pOk n (nI k) = true := by
  unfold pOk; rw [nI_toInt (by omega)]; exact decide_eq_true (by omega)
theorem pOk_f {n k : Nat} (hk : k < 2 ^ 31) (h : k < 1 ∨ 8 < k ∨ 2000 < n + k) : pOk n (nI k) = false := by
  unfold pOk; rw [nI_toInt hk]; exact decide_eq_false (by omega)
theorem pOk_neg {n : Nat} {x : Int32} (h : x < 0) : pOk n x = false := by
  rw [Int32.lt_iff_toInt_lt, Int32.toInt_zero] at h
  unfold pOk; exact decide_eq_false (by omega)
theorem pOk_big {n : Nat} {x : Int32} (h : nI 9 ≤ x) : pOk n x = false := by
  rw [Int32.le_iff_toInt_le, nI_toInt (by decide)] at h
  unfold pOk; exact decide_eq_false (by omega)
def pN (n : Nat) (x : Int32) : Nat := if pOk n x = true then n + x.toNatClampNeg else n
def pT (t : Nat → Nat) (n : Nat) (x : Int32) (s : Nat → Nat → Nat) : Nat → Nat := if pOk n x = true then putF t n x.toNatClampNeg (s x.toNatClampNeg) else t
theorem pN_t {n k : Nat} (h : pOk n (nI k) = true) (hk : k < 2 ^ 31) : pN n (nI k) = n + k := by unfold pN; rw [if_pos h, nI_clamp hk]
theorem pT_t {t : Nat → Nat} {n k : Nat} {s : Nat → Nat → Nat} (h : pOk n (nI k) = true) (hk : k < 2 ^ 31) : pT t n (nI k) s = putF t n k (s k) := by unfold pT; rw [if_pos h, nI_clamp hk]
theorem pN_f {n : Nat} {x : Int32} (h : pOk n x = false) : pN n x = n := by unfold pN; rw [h]; rfl
theorem pT_f {t : Nat → Nat} {n : Nat} {x : Int32} {s : Nat → Nat → Nat} (h : pOk n x = false) : pT t n x s = t := by unfold pT; rw [h]; rfl
def hiS (v : Int64) (k q : Nat) : Nat := lb v (k - 1 - q)
def loS (v : Int64) (_ q : Nat) : Nat := lb v q
theorem pN_le {n : Nat} {x : Int32} (hn : n ≤ 2000) : pN n x ≤ 2000 := by
  unfold pN; split
  · rename_i h
    have h2 := of_decide_eq_true h
    have e : (x.toNatClampNeg : Int) = x.toInt := by
      show ((x.toInt.toNat : Nat) : Int) = x.toInt
      omega
    omega
  · exact hn
theorem pT_lt {t : Nat → Nat} {n : Nat} {x : Int32} {s : Nat → Nat → Nat} (ht : ∀ j, t j < 256) (hs : ∀ k q, s k q < 256) : ∀ j, pT t n x s j < 256 := by
  intro j; unfold pT; split
  · exact putF_lt ht (hs _) j
  · exact ht j
theorem pT_cg {t u : Nat → Nat} {n : Nat} {x : Int32} {s : Nat → Nat → Nat} (h : ∀ j, j < n → t j = u j) : ∀ j, j < pN n x → pT t n x s j = pT u n x s j := by
  intro j hj
  unfold pN at hj
  unfold pT
  split
  · rename_i c; rw [if_pos c] at hj
    by_cases e : j < n
    · rw [putF_lo e, putF_lo e, h j e]
    · unfold putF; rw [if_pos (by omega), if_pos (by omega)]
  · rename_i c; rw [if_neg c] at hj; exact h j hj
/-- a size's bytes -/
def mk (w : Nat) : Nat := if w = 8 then 255 else if w = 4 then 254 else 253
def cB (V : Nat) (q : Nat) : Nat := if q = 0 then (if wFit V = 0 then V else mk (wFit V)) else V / 2 ^ (8 * (q - 1)) % 256
def cOk (n V : Nat) : Bool := decide (n + 1 + wFit V ≤ 2000)
def cN (n V : Nat) : Nat := if cOk n V = true then n + (1 + wFit V) else n
def cT (t : Nat → Nat) (n V : Nat) : Nat → Nat := if cOk n V = true then putF t n (1 + wFit V) (cB V) else t
theorem wFit_v (V : Nat) : wFit V = 0 ∨ wFit V = 2 ∨ wFit V = 4 ∨ wFit V = 8 := by unfold wFit; split <;> (try split) <;> (try split) <;> simp
theorem wFit_0 {V : Nat} (h : wFit V = 0) : V < 253 := by
  unfold wFit at h; split at h
  · assumption
  · split at h
    · cases h
    · split at h <;> cases h
theorem cB_lt (V q : Nat) : cB V q < 256 := by
  unfold cB; split
  · split
    · rename_i h; have := wFit_0 h; omega
    · unfold mk; split <;> (try split) <;> decide
  · exact Nat.mod_lt _ (by decide)
theorem lb_lN {V : Nat} (hV : V < 2 ^ 64) (i : Nat) : lb (lN V) i = V / 2 ^ (8 * i) % 256 := by unfold lb; rw [wb_tn hV]
theorem cT_1 {t : Nat → Nat} {n V : Nat} (hV : V < 2 ^ 64) (h : wFit V = 0) : putF t n 1 (fun q => lb (lN V) q) = putF t n (1 + wFit V) (cB V) := by
  rw [h]
  refine putF_cg (fun j hj => ?_)
  obtain rfl : j = 0 := by omega
  have := wFit_0 h
  rw [lb_lN hV]
  unfold cB
  rw [if_pos rfl, if_pos h, Nat.mul_zero, Nat.pow_zero, Nat.div_one, Nat.mod_eq_of_lt (by omega)]
theorem cT_2 {t : Nat → Nat} {n V : Nat} (hV : V < 2 ^ 64) (h : wFit V ≠ 0) : putF (putF t n 1 (fun q => lb (lN (mk (wFit V))) q)) (n + 1) (wFit V) (fun q => lb (lN V) q) = putF t n (1 + wFit V) (cB V) := by
  funext j
  unfold putF
  by_cases c1 : n + 1 ≤ j ∧ j < n + 1 + wFit V
  · rw [if_pos c1, if_pos (by omega)]
    show lb (lN V) (j - (n + 1)) = _
    rw [lb_lN hV]
    unfold cB
    rw [if_neg (by omega), show j - n - 1 = j - (n + 1) by omega]
  · rw [if_neg c1]
    by_cases c2 : n ≤ j ∧ j < n + 1
    · obtain rfl : j = n := by omega
      rw [if_pos c2, if_pos (by omega), Nat.sub_self]
      unfold cB
      have hm : mk (wFit V) < 256 := by unfold mk; split <;> (try split) <;> decide
      show lb (lN (mk (wFit V))) 0 = _
      rw [if_pos rfl, if_neg h, lb_lN (by omega), Nat.mul_zero, Nat.pow_zero, Nat.div_one, Nat.mod_eq_of_lt hm]
    · rw [if_neg c2, if_neg (by omega)]
theorem cN_le {n V : Nat} (hn : n ≤ 2000) : cN n V ≤ 2000 := by
  unfold cN; split
  · rename_i h; have := of_decide_eq_true h; omega
  · exact hn
theorem cT_lt {t : Nat → Nat} {n V : Nat} (ht : ∀ j, t j < 256) : ∀ j, cT t n V j < 256 := by
  intro j; unfold cT; split
  · exact putF_lt ht (cB_lt V) j
  · exact ht j
theorem cT_cg {t u : Nat → Nat} {n V : Nat} (h : ∀ j, j < n → t j = u j) : ∀ j, j < cN n V → cT t n V j = cT u n V j := by
  intro j hj
  unfold cN at hj
  unfold cT
  split
  · rename_i c; rw [if_pos c] at hj
    by_cases e : j < n
    · rw [putF_lo e, putF_lo e, h j e]
    · unfold putF; rw [if_pos (by omega), if_pos (by omega)]
  · rename_i c; rw [if_neg c] at hj; exact h j hj
/-- one of several longs, -1 for another number -/
def sel (x : Int32) (l : List Int64) : Int64 := if 0 ≤ x ∧ x < nI l.length then l.getD x.toNatClampNeg 0 else -1
theorem sel_in {l : List Int64} {k : Nat} (h : k < l.length) (hl : l.length < 2 ^ 31) : sel (nI k) l = l.getD k 0 := by
  unfold sel; rw [if_pos ⟨nI_pos' (by omega), nI_lt h hl⟩, nI_clamp (by omega)]
theorem nlt0 {x : Int32} (h : x < 0) : ¬ 0 ≤ x := by
  rw [Int32.lt_iff_toInt_lt] at h; rw [Int32.le_iff_toInt_le]; omega
theorem nle {x y : Int32} (h : y ≤ x) : ¬ x < y := by
  rw [Int32.le_iff_toInt_le] at h; rw [Int32.lt_iff_toInt_lt]; omega
theorem sel_neg {l : List Int64} {x : Int32} (h : x < 0) : sel x l = -1 := by unfold sel; rw [if_neg (fun q => nlt0 h q.1)]
theorem sel_big {l : List Int64} {x : Int32} (h : nI l.length ≤ x) : sel x l = -1 := by unfold sel; rw [if_neg (fun q => nle h q.2)]
theorem ts_neg {x : Int32} (h : x < 0) : x.toInt < 0 := by rw [Int32.lt_iff_toInt_lt, Int32.toInt_zero] at h; exact h
theorem ts_big {x : Int32} {k : Nat} (hk : k + 1 < 2 ^ 31) (h : nI (k + 1) ≤ x) : (k : Int) < x.toInt := by
  rw [Int32.le_iff_toInt_le, nI_toInt hk] at h; omega
def hdR (blk : Bool) (t : Nat → Nat) (x : Int32) : Int64 := if blk = true then sel x [lN (lf t 0 4), lN (lf t 68 4), lN (lf t 72 4), lN (lf t 76 4)] else -1
def lookV (t : Nat → Nat) (n : Nat) (s : RS) (x : Int32) : Int64 := sel x [lN (lf t (pos s) 4), lN (xZ t n s).1, lN (xY t n s).1, lN (lf t (pos (rTx t n s) - 4) 4), lN (pos s), lN (pos (rTx t n s) - pos s)]
def lookR (t : Nat → Nat) (n : Nat) (s2 : RS) (cnt : Nat) (tt x : Int32) : Int64 := if 0 ≤ tt ∧ tt < nI cnt then lookV t n (itN (rTx t n) tt.toNatClampNeg s2) x else -1
def inV (t : Nat → Nat) (n : Nat) (s : RS) (x : Int32) : Int64 := sel x [lN (pos s), lN (lf t (pos s + 32) 4), lN (pos (inZ t n s).2), lN (inZ t n s).1, lN (lf t (pos (inZ t n s).2 + (inZ t n s).1) 4)]
def inR (t : Nat → Nat) (n : Nat) (s2 : RS) (cnt : Nat) (tt i x : Int32) : Int64 := if 0 ≤ tt ∧ tt < nI cnt then (if 0 ≤ i ∧ i < nI (xZ t n (itN (rTx t n) tt.toNatClampNeg s2)).1 then inV t n (xI t n (itN (rTx t n) tt.toNatClampNeg s2) i.toNatClampNeg) x else -1) else -1
def outV (t : Nat → Nat) (n : Nat) (s : RS) (x : Int32) : Int64 := sel x [lN (lf t (pos s) 8), lN (pos (outZ t n s).2), lN (outZ t n s).1]
def outR (t : Nat → Nat) (n : Nat) (s2 : RS) (cnt : Nat) (tt i x : Int32) : Int64 := if 0 ≤ tt ∧ tt < nI cnt then (if 0 ≤ i ∧ i < nI (xY t n (itN (rTx t n) tt.toNatClampNeg s2)).1 then outV t n (xO t n (itN (rTx t n) tt.toNatClampNeg s2) i.toNatClampNeg) x else -1) else -1
/-- where a transaction's parts lie -/
theorem tx_in {t : Nat → Nat} {n : Nat} {s : RS} {e : Nat} (h : rTx t n s = .inl e) : ∃ b, s = .inl b ∧ b + 4 ≤ e ∧ e ≤ n ∧ 4 ≤ e := by
  obtain ⟨a, h1, h1b, h1c⟩ := rPass_in h
  obtain ⟨b, h2⟩ := itN_in (rOut_st t n) _ h1 0 (Nat.zero_le _)
  have mo : ∀ (k : Nat) {s : RS} {p q : Nat}, itN (rOut t n) k s = .inl p → s = .inl q → q ≤ p := by
    intro k; induction k with
    | zero => intro s p q h hq; rw [hq] at h; have := Sum.inl.inj h; omega
    | succ k ih =>
      intro s p q h hq
      obtain ⟨a, b, z1, z2, z3, z4, z5⟩ := rOut_in h
      have := ih z1 hq; omega
  have mi : ∀ (k : Nat) {s : RS} {p q : Nat}, itN (rIn t n) k s = .inl p → s = .inl q → q ≤ p := by
    intro k; induction k with
    | zero => intro s p q h hq; rw [hq] at h; have := Sum.inl.inj h; omega
    | succ k ih =>
      intro s p q h hq
      obtain ⟨a, b, z1, z2, z3, z4, z5⟩ := rIn_in h
      have := ih z1 hq; omega
  have o1 := mo _ h1 h2
  obtain ⟨c, h3, h3b, h3c⟩ := rSize_in h2
  obtain ⟨d, h4⟩ := itN_in (rIn_st t n) _ h3 0 (Nat.zero_le _)
  have o2 := mi _ h3 h4
  obtain ⟨f, h5, h5b, h5c⟩ := rSize_in h4
  obtain ⟨b', h6, h6b, h6c⟩ := rPass_in h5
  exact ⟨b', h6, by omega, by omega, by omega⟩
theorem tx_st {t : Nat → Nat} {n : Nat} {s2 : RS} {cnt e0 u : Nat} (h : itN (rTx t n) cnt s2 = .inl e0) (hu : u < cnt) : ∃ b e, itN (rTx t n) u s2 = .inl b ∧ rTx t n (itN (rTx t n) u s2) = .inl e ∧ b + 4 ≤ e ∧ e ≤ n ∧ 4 ≤ e := by
  obtain ⟨e, he⟩ := itN_in (rTx_st t n) cnt h (u + 1) (by omega)
  have he' : rTx t n (itN (rTx t n) u s2) = .inl e := he
  obtain ⟨b, h1, h2, h3, h4⟩ := tx_in he'
  exact ⟨b, e, h1, he', h2, h3, h4⟩
/-- eight bytes, the first one highest -/
def be (v : Nat → Nat) (p : Nat) : Nat → Nat
  | 0 => 0
  | k + 1 => be v p k * 256 + v (p + k)
theorem be_lt {v : Nat → Nat} (hv : ∀ j, v j < 256) (p : Nat) : ∀ k, be v p k < 256 ^ k
  | 0 => Nat.one_pos
  | k + 1 => by
    have h1 := be_lt hv p k
    have h2 := hv (p + k)
    rw [Nat.pow_succ]
    show be v p k * 256 + v (p + k) < _
    omega
theorem be_push {v : Nat → Nat} (hv : ∀ j, v j < 256) {p k : Nat} (hk : k < 8) : (lN (be v p k) <<< ((nI 8).toInt64 &&& 63)) ||| lN (v (p + k)) = lN (be v p (k + 1)) := by
  have h1 := be_lt hv p k
  have h2 : 256 ^ k ≤ 256 ^ 7 := Nat.pow_le_pow_right (by decide) (by omega)
  exact lN_push (Nat.lt_of_lt_of_le h1 (Nat.le_trans h2 (by decide))) (hv _)
theorem be_cg {v u : Nat → Nat} {p q : Nat} : ∀ k, (∀ j, j < k → v (p + j) = u (q + j)) → be v p k = be u q k
  | 0, _ => rfl
  | k + 1, h => by
    show be v p k * 256 + v (p + k) = be u q k * 256 + u (q + k)
    rw [be_cg k (fun j hj => h j (by omega)), h k (by omega)]
