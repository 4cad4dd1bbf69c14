/-! longs that are numbers, and a long's bytes -/
section JL
variable {g : JX} {κ : JK} {cc : ByteArray} {own : String} {rm : Room} {nL pc cells slots : Nat} {lv : List (Nat × Value)} {rest : List Value} {ws : va_W}
theorem j_laddN (C : j_C g κ cc own rm nL) {a b : Nat} (hdg : decode cc pc = .ok (.ladd, 1)) (k9 : j_V g κ cells slots (pc + 1) lv (.long (lN (a + b)) :: rest) ws) : j_V g κ cells slots pc lv (.long (lN b) :: .long (lN a) :: rest) ws := j_ladd C hdg (j_rwl (lN_add a b) k9)
theorem j_lmulN (C : j_C g κ cc own rm nL) {a b : Nat} (hdg : decode cc pc = .ok (.lmul, 1)) (k9 : j_V g κ cells slots (pc + 1) lv (.long (lN (a * b)) :: rest) ws) : j_V g κ cells slots pc lv (.long (lN b) :: .long (lN a) :: rest) ws := j_lmul C hdg (j_rwl (lN_mul a b) k9)
theorem j_lsubN (C : j_C g κ cc own rm nL) {a b : Nat} (h : b ≤ a) (hdg : decode cc pc = .ok (.lsub, 1)) (k9 : j_V g κ cells slots (pc + 1) lv (.long (lN (a - b)) :: rest) ws) : j_V g κ cells slots pc lv (.long (lN b) :: .long (lN a) :: rest) ws := j_lsub C hdg (j_rwl (lN_sub h) k9)
theorem lN_ne0 {b : Nat} (h0 : 0 < b) (hb : b < 2 ^ 63) : ¬ lN b = 0 := fun h => by
  have := (pk_lEQ (a := b) (b := 0) hb (by decide)).mp h
  omega
theorem j_ldivN (C : j_C g κ cc own rm nL) {a b : Nat} (ha : a < 2 ^ 63) (h0 : 0 < b) (hb : b < 2 ^ 63) (hdg : decode cc pc = .ok (.ldiv, 1)) (k9 : j_V g κ cells slots (pc + 1) lv (.long (lN (a / b)) :: rest) ws) : j_V g κ cells slots pc lv (.long (lN b) :: .long (lN a) :: rest) ws := j_ldiv C hdg (lN_ne0 h0 hb) (j_rwl (pk_lDiv ha h0 hb) k9)
theorem j_lremN (C : j_C g κ cc own rm nL) {a b : Nat} (ha : a < 2 ^ 63) (h0 : 0 < b) (hb : b < 2 ^ 63) (hdg : decode cc pc = .ok (.lrem, 1)) (k9 : j_V g κ cells slots (pc + 1) lv (.long (lN (a % b)) :: rest) ws) : j_V g κ cells slots pc lv (.long (lN b) :: .long (lN a) :: rest) ws := j_lrem C hdg (lN_ne0 h0 hb) (j_rwl (pk_lRem ha h0 hb) k9)
end JL
theorem lsr_b (v : Int64) {k i : Nat} (hk : k = 8 * i) (hi : i < 8) : (v >>> ((nI k).toInt64 &&& 63)) &&& 255 = lN (lb v i) := by
  subst hk
  rw [wb_c (8 * i) (by omega)]
  apply wb_inj
  rw [Int64.toBitVec_and, Int64.toBitVec_shiftRight, wb_tb, wb_tb, wb_sm _ (by omega)]
  apply BitVec.eq_of_getLsbD_eq
  intro j hj
  rw [BitVec.getLsbD_and, BitVec.sshiftRight_eq', BitVec.getLsbD_sshiftRight, BitVec.toNat_ofNat, Nat.mod_eq_of_lt (show 8 * i < 2 ^ 64 by omega), BitVec.getLsbD_ofNat]
  unfold lb
  rw [show (256 : Nat) = 2 ^ 8 from rfl, Nat.testBit_mod_two_pow, Nat.testBit_div_two_pow]
  have e : (255 : Int64).toBitVec.getLsbD j = decide (j < 8) := by
    show (BitVec.ofNat 64 (2 ^ 8 - 1)).getLsbD j = _
    rw [BitVec.getLsbD_ofNat, Nat.testBit_two_pow_sub_one, decide_eq_true hj, Bool.true_and]
  rw [e]
  by_cases c : j < 8
  · rw [if_pos (by omega), decide_eq_true c, decide_eq_true hj, decide_eq_false (by omega), BitVec.getLsbD, Nat.add_comm]
    simp
  · rw [decide_eq_false c]; simp
theorem wzd_1 {V c : Nat} {K : Int64} (hK : K = lN c) (hV : V < 2 ^ 63) (hc : c < 2 ^ 63) (h : lg_cmp (lN V) K < 0) : V < c := by
  subst hK; rw [lg_lt0] at h; exact (z_lt hV hc).mp h
theorem wzd_2 {V c : Nat} {K : Int64} (hK : K = lN c) (hV : V < 2 ^ 63) (hc : c < 2 ^ 63) (h : ¬ lg_cmp (lN V) K < 0) : c ≤ V := by
  subst hK; rw [lg_lt0] at h; exact Nat.le_of_not_lt fun q => h ((z_lt hV hc).mpr q)
theorem vu_p1 {t : Nat → Nat} {n c : Nat} (hc : c < 256) : va_up t n c = putF t n 1 (fun q => lb (lN c) q) := by
  have h := putF_s t n 0 (fun q => lb (lN c) q)
  rw [putF_0] at h
  rw [← h]
  show _ = va_up t n (lb (lN c) 0)
  rw [lb_lN (by omega), Nat.mul_zero, Nat.pow_zero, Nat.div_one, Nat.mod_eq_of_lt hc]
theorem nI_nn {u : Nat} {z : Int32} (hu : u < 2 ^ 31) (hz : z.toInt < 0) : ¬ nI u < z := by
  rw [Int32.lt_iff_toInt_lt, nI_toInt hu]; omega
theorem nI_nq {u : Nat} {z : Int32} (hu : u < 2 ^ 31) (hz : z.toInt < 0) : ¬ nI u = z := by
  intro h; subst h; rw [nI_toInt hu] at hz; omega
def MAll (t : Nat → Nat) (n : Nat) (s2 : RS) (cnt : Nat) (F : Nat → Nat → Int32) : Prop := ∀ v, v < cnt → MTx t n (itN (rTx t n) v s2) v F
theorem be_push2 {v : Nat → Nat} (hv : ∀ j, v j < 256) {p k e : Nat} (he : e = p + k) (hk : k < 8) : (lN (be v p k) <<< ((nI 8).toInt64 &&& 63)) ||| lN (v e) = lN (be v p (k + 1)) := by
  subst he; exact be_push hv hk
theorem tt_neg {tt : Int32} (h : tt < 0) : tt = -1 ∨ tt = -2 ∨ tt = -3 ∨ tt < -3 := by
  rw [Int32.lt_iff_toInt_lt] at h
  rw [Int32.lt_iff_toInt_lt]
  have e1 : (-1 : Int32).toInt = -1 := by decide
  have e2 : (-2 : Int32).toInt = -2 := by decide
  have e3 : (-3 : Int32).toInt = -3 := by decide
  have e0 : (0 : Int32).toInt = 0 := by decide
  rw [← Int32.toInt_inj, ← Int32.toInt_inj, ← Int32.toInt_inj, e1, e2, e3]
  omega
theorem j_R_mono {g : JX} {κ : JK} {cc : ByteArray} {ret : Option FieldType} {O O' : Option Value → va_W → Prop} {mc ms : Nat} (h : j_R g κ cc ret O' mc ms) (hO : ∀ r w, O r w → O' r w) : j_R g κ cc ret O mc ms :=
  ⟨fun pc lv ws v h1 h2 h3 => h.1 pc lv ws v h1 h2 (hO _ _ h3), fun pc lv ws v h1 h2 h3 => h.2.1 pc lv ws v h1 h2 (hO _ _ h3), fun pc lv ws h1 h2 h3 => h.2.2 pc lv ws h1 h2 (hO _ _ h3)⟩
