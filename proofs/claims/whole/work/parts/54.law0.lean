/-! THE CLAIM OUT OF ONE WALK OF THE LAW'S BODY. Your part is whole_start (and what it stands on); all else here is the same for every law, but numbers. -/
def R_law : String := "WireDeskLaw"
def lw_P (b : Addr) (xs : List Int32) (args : Array Value) (s : State) : Prop := args = #[.ref b] ∧ s.IntsAt b xs ∧ xs.length ≤ 2048 ∧ (Jvm.Cond.and given_1 narrow_1).before args s = true
def lw_Q (_ : Array Value) (s : State) (o : Outcome) (t : State) : Prop := o = .returned (some (.int 1)) ∧ Framed s o t [] 600000 7302250
def lw_Z (below : List Frame) (a : Array Value) (s : State) : State → Prop := fun t => ∃ o, t.status = .running ∧ Ended t below o ∧ lw_Q a s o t
/-- the law's own end, with 1 on the stack, nothing written that was there before, its room as the claim has it -/
theorem lw_ret {p : Program} {l : Launch} {e : Env} {s : State} {m : MethodId} {below : List Frame} {meth : Method} {c : Code} {b : Nat} (hx : p.tables.exec = Jvm.exec) (hb : c.code = code) (hr : meth.sig.returnType = ret) (hlocks : meth.locks = false) {pc : Nat} {H : Heap} {ls : Array Slot} (hdg : decode code pc = .ok (.ireturn, 1)) : W p l e room_1 s m #[Value.ref b] below meth c H [] 600000 7302250 (lw_Z below #[Value.ref b] s) (F0 m pc ls [.int 1]) := by
  intro T hT X
  obtain ⟨fs, hret, hrun, hended, hW, hframe⟩ := X.leave (v := some (.int 1)) (hlocks := hlocks) (fun h => by rw [hr] at h; cases h)
  have hmeth' : T.vm.method? m = some meth := X.method'
  refine ⟨T.setFrames fs, ?_, .returned (some (.int 1)), hrun, hended, rfl, ⟨_, rfl⟩, hW, hframe⟩
  jvm_step X.here [X.here.top, hx, hb, hdg, hmeth', hr, ret, narrow_b1]
  (try refine ⟨rfl, ?_⟩); (try refine ⟨rfl, ?_⟩)
  first | (intro acts; rw [hret _ acts rfl rfl rfl]) | rw [hret _ _ rfl rfl rfl]
  exact Steps.refl _
/-- what holds at the law's entry: the machine, the code, the tables' words (any of lw_tbl by 'hts w (by decide +kernel)'), the script of L ints xs at the cell b, what the Statement gives of the start (any of its parts by flat_of_before) -/
def lw_At (p : Program) (s : State) (m : MethodId) (meth : Method) (c : Code) (b L : Nat) (xs : Nat → Int32) : Prop :=
  p.tables.exec = Jvm.exec ∧ c.code = code ∧ meth.sig.returnType = ret ∧ c.maxLocals = 4 ∧ s.vm.findClass R_law = some m.cls ∧ (∀ w ∈ lw_tbl, w.before #[Value.ref b] s = true) ∧ va_X b L xs s s.heap ∧ b < s.heap.size ∧ meth.locks = false ∧ (Jvm.Cond.and given_1 narrow_1).before #[Value.ref b] s = true
theorem st_in : ∀ j, j < 8 → Cond.eq (.elem (.static "WireDesk$Namer" "START" "[I") (.int (Int32.ofNat j))) (.int (kSTART.getD j 0)) ∈ flatC (Jvm.Cond.and given_1 narrow_1) := by decide +kernel
theorem ro_in : ∀ j, j < 64 → Cond.eq (.elem (.static "WireDesk$Namer" "ROUND" "[I") (.int (Int32.ofNat j))) (.int (kROUND.getD j 0)) ∈ flatC (Jvm.Cond.and given_1 narrow_1) := by decide +kernel
/-- the tables at the start -/
theorem jg_start {p : Program} {s : State} {m : MethodId} {meth : Method} {c : Code} {b L : Nat} {xs : Nat → Int32} (C0 : lw_At p s m meth c b L xs) : ∃ g : JX, j_G g (fun q => s.heap.size ≤ q) s s.heap := by
  obtain ⟨hx, hb, hr, hml, hown, hts, hX, hbl, hlocks, hgv⟩ := C0
  have hTB : ∀ w ∈ TB, w.before #[Value.ref b] s = true := fun w hw => hts w (TB_tbl hw)
  have hs := flat_of_before _ hgv
  have hnA : ∀ a : Nat, a < s.heap.size → ¬ (fun q : Nat => s.heap.size ≤ q) a := fun a h => Nat.not_le.mpr h
  obtain ⟨c0, i0, k0⟩ := u_known (C := R_Row) (T := T_Row) (N := 2) (n := 2) hTB i_Row (hts (.instantiable R_Row 2) (by decide +kernel))
  obtain ⟨c1, i1, k1⟩ := u_known (C := R_Nam) (T := T_Nam) (N := 3) (n := 3) hTB i_Nam (hts (.instantiable R_Nam 3) (by decide +kernel))
  obtain ⟨c2, i2, k2⟩ := u_known (C := R_Rea) (T := T_Rea) (N := 4) (n := 4) hTB i_Rea (hts (.instantiable R_Rea 4) (by decide +kernel))
  obtain ⟨c3, i3, k3⟩ := u_known (C := R_Txt) (T := T_Txt) (N := 2) (n := 2) hTB i_Txt (hts (.instantiable R_Txt 2) (by decide +kernel))
  obtain ⟨c4, i4, k4⟩ := u_known (C := R_Tra) (T := T_Tra) (N := 10) (n := 10) hTB i_Tra (hts (.instantiable R_Tra 10) (by decide +kernel))
  obtain ⟨c5, i5, k5⟩ := u_known (C := R_Dsk) (T := T_Dsk) (N := 11) (n := 11) hTB i_Dsk (hts (.instantiable R_Dsk 11) (by decide +kernel))
  obtain ⟨c6, i6, k6⟩ := u_known (C := R_Mod) (T := T_Mod) (N := 32) (n := 32) hTB i_Mod (hts (.instantiable R_Mod 32) (by decide +kernel))
  obtain ⟨cB, kB, mB, fB, gB, hB⟩ := Cond.arrayClass_spec (hts (.arrayClass .byte) (by decide +kernel))
  obtain ⟨cI, kI, mI, fI, gI, hI⟩ := Cond.arrayClass_spec (hts (.arrayClass .int) (by decide +kernel))
  obtain ⟨cJ, kJ, mJ, fJ, gJ, hJ⟩ := Cond.arrayClass_spec (hts (.arrayClass .long) (by decide +kernel))
  have hAO := hts (.arrayOver (.object "WireDesk$Transaction")) (by decide +kernel)
  obtain ⟨mQ, cQ, kQ, q1, q2, q3, q4, q5⟩ := Cond.arrayOver_spec hAO
  obtain ⟨tS, eS, TS⟩ := va_Tof (tm := .static "WireDesk$Namer" "START" "[I") (ty := .int) (N := 8) (f := vSTART) (A := fun q => s.heap.size ≤ q) (by decide) (hs _ (by decide +kernel)) (va_eqt (hs (.eq (.length (.static "WireDesk$Namer" "START" "[I")) (.int 8)) (by decide +kernel))) (fun j hj => va_eqt (hs _ (st_in j hj))) hnA
  obtain ⟨tR, eR, TR⟩ := va_Tof (tm := .static "WireDesk$Namer" "ROUND" "[I") (ty := .int) (N := 64) (f := vROUND) (A := fun q => s.heap.size ≤ q) (by decide) (hs _ (by decide +kernel)) (va_eqt (hs (.eq (.length (.static "WireDesk$Namer" "ROUND" "[I")) (.int 64)) (by decide +kernel))) (fun j hj => va_eqt (hs _ (ro_in j hj))) hnA
  have ZS := va_Zref (A := fun q => s.heap.size ≤ q) (hts (.laysStatic "WireDesk$Namer" "START" "[I") (by decide +kernel)) (hts (.initialized "WireDesk$Namer") (by decide +kernel)) eS hnA
  have ZR := va_Zref (A := fun q => s.heap.size ≤ q) (hts (.laysStatic "WireDesk$Namer" "ROUND" "[I") (by decide +kernel)) (hts (.initialized "WireDesk$Namer") (by decide +kernel)) eR hnA
  refine ⟨(fun k => [c0, c1, c2, c3, c4, c5, c6].getD k c0, fun k => [i0, i1, i2, i3, i4, i5, i6].getD k i0, fun k => [cB, cI, cQ, cJ].getD k cB, fun k => [tS, tR].getD k tS), ⟨fun k q hq => ?_, fun k q hq => ?_⟩, fun w hw => va_Nw.of (j_nest_on hw) (hts w (jN_in w hw)), ZS, TS, ZR, TR, va_AO.of hAO⟩
  · match k, hq with
    | 0, hq => cases hq; exact k0
    | 1, hq => cases hq; exact k1
    | 2, hq => cases hq; exact k2
    | 3, hq => cases hq; exact k3
    | 4, hq => cases hq; exact k4
    | 5, hq => cases hq; exact k5
    | 6, hq => cases hq; exact k6
    | k + 7, hq => simp at hq
  · match k, hq with
    | 0, hq => cases hq; exact ⟨fun n z => ⟨fun k h => (by cases h), kB, gB, mB, hB⟩, fB⟩
    | 1, hq => cases hq; exact ⟨fun n z => ⟨fun k h => (by cases h), kI, gI, mI, hI⟩, fI⟩
    | 2, hq => cases hq; exact ⟨fun n z => ⟨fun k h => (by cases h), kQ, q3, mQ, q4⟩, kQ, mQ, q3, q4, q1, q5⟩
    | 3, hq => cases hq; exact ⟨fun n z => ⟨fun k h => (by cases h), kJ, gJ, mJ, hJ⟩, fJ⟩
    | k + 4, hq => simp at hq
/-! the script's ints -/
section JSC
variable {g : JX} {κ : JK} {cc : ByteArray} {own : String} {rm : Room} {nL pc cells slots : Nat} {lv : List (Nat × Value)} {rest : List Value} {ws : va_W}
theorem j_sld (C : j_C g κ cc own rm nL) {b L : Nat} {xs : Nat → Int32} (hX : va_X b L xs (ks κ) (ks κ).heap ∧ b < (ks κ).heap.size ∧ ¬ kA κ b) {i : Nat} (hi : i < L) (hL : L < 2 ^ 31) (hdg : decode cc pc = .ok (.iaload, 1)) (k9 : j_V g κ cells slots (pc + 1) lv (.int (xs i) :: rest) ws) : j_V g κ cells slots pc lv (.int (nI i) :: .ref b :: rest) ws :=
  fun H locs ls hP hD hS hl => va_sld C.1 C.2.1 hX.1 hX.2.1 hX.2.2 hS (vp_in_nI hi hL) hdg (by rw [nI_clamp (Nat.lt_trans hi hL)]; exact k9 H locs ls hP hD hS hl)
theorem j_slen (C : j_C g κ cc own rm nL) {b L : Nat} {xs : Nat → Int32} (hX : va_X b L xs (ks κ) (ks κ).heap ∧ b < (ks κ).heap.size ∧ ¬ kA κ b) (hdg : decode cc pc = .ok (.arraylength, 1)) (k9 : j_V g κ cells slots (pc + 1) lv (.int (nI L) :: rest) ws) : j_V g κ cells slots pc lv (.ref b :: rest) ws :=
  fun H locs ls hP hD hS hl => va_slen C.1 C.2.1 hX.1 hX.2.1 hX.2.2 hS hdg (k9 H locs ls hP hD hS hl)
end JSC
theorem and15 (x : Int32) : ∃ m, m < 16 ∧ x &&& nI 15 = nI m := by
  obtain ⟨n, hn, rfl⟩ := wb_of32 x
  refine ⟨n % 16, Nat.mod_lt _ (by decide), ?_⟩
  apply Int32.toBitVec_inj.mp
  apply BitVec.eq_of_toNat_eq
  show ((BitVec.ofNat 32 n) &&& (BitVec.ofNat 32 15)).toNat = (BitVec.ofNat 32 (n % 16)).toNat
  rw [BitVec.toNat_and, BitVec.toNat_ofNat, BitVec.toNat_ofNat, BitVec.toNat_ofNat, Nat.mod_eq_of_lt hn, Nat.mod_eq_of_lt (show 15 < 2 ^ 32 by decide), Nat.and_two_pow_sub_one_eq_mod n 4, Nat.mod_eq_of_lt (show n % 16 < 2 ^ 32 by omega)]
theorem l4 : ∀ L, L < 4 → ∀ i, i < 4 → nI L - nI 4 < nI i := by decide
theorem rd_two {e : Nat} {t1 t2 tK : Nat → Nat} {n1 n2 n c1 c2 cB : Nat} {k1 k2 bk : Bool} {s1 s2 sB : RS} {F : Nat → Nat → Int32} {v rt : Nat → Nat} {db : Bool} (hd : (0 < e ∧ t1 = tK ∧ n1 = 0 ∧ c1 = 0 ∧ k1 = false) ∨ (e = 0 ∧ t1 = tK ∧ n1 = n ∧ c1 = cB ∧ k1 = bk ∧ s1 = sB)) (hm : (0 < e ∧ t2 = tK ∧ n2 = 0 ∧ c2 = 0 ∧ k2 = false) ∨ (e = 0 ∧ t2 = tK ∧ n2 = n ∧ c2 = cB ∧ k2 = bk ∧ s2 = sB)) (hM : MK t2 n2 c2 k2 s2 F v rt db) : t1 = t2 ∧ n1 = n2 ∧ c1 = c2 ∧ k1 = k2 ∧ MK t1 n1 c1 k1 s1 F v rt db := by
  rcases hd with ⟨h0, rfl, rfl, rfl, rfl⟩ | ⟨h0, rfl, rfl, rfl, rfl, rfl⟩ <;> rcases hm with ⟨g0, rfl, rfl, rfl, rfl⟩ | ⟨g0, rfl, rfl, rfl, rfl, rfl⟩
  · exact ⟨rfl, rfl, rfl, rfl, MK_0 hM.2.1 hM.2.2.1 hM.2.2.2.1⟩
  · omega
  · omega
  · exact ⟨rfl, rfl, rfl, rfl, hM⟩
theorem db_two {t : Nat → Nat} {n cnt : Nat} {blk : Bool} {s2 : RS} {y : Nat → Nat → Int32} {f : Nat → Nat → Nat → Int32} {v v2 c : Nat → Nat} {db : Bool} {F : Nat → Nat → Int32} {vm rt : Nat → Nat} {dbm : Bool} (hD : DK t n cnt blk s2 y f v v2 c db) (hM : MK t n cnt blk s2 F vm rt dbm) : b2 (blk && db) = b2 (blk && dbm) := by
  cases blk with
  | false => rfl
  | true =>
    obtain ⟨-, -, -, -, -, -, -, -, -, -, -, -, h1⟩ := hD
    obtain ⟨-, -, -, -, -, -, -, -, -, -, h2⟩ := hM
    rw [h1 rfl, h2 rfl]
abbrev bW (d : Nat → BW) : Nat → Nat := bn d
/-! the two worlds -/
def dWl (g : JX) (x0 tw wb tk kb r0 ha tn bn m0 ms mw mf w0 nr : Nat) (xa : Nat → Nat) (cnt : Nat) (blk : Bool) (pl : Int32) (n : Nat) (tv : Nat → Nat) (nk : Nat) (t : Nat → Nat) (ra : Int32) (rb : Int32) (rc : Int32) (v : Nat → Nat) (v2 : Nat → Nat) (d : Nat → BW) (w : Nat → BW) (u0 : Nat → Nat) (db : Bool) (c : Nat → Nat) : va_W := [(x0, .inr (5, [.ref tw, .ref r0, .ref tk, .ref m0, .ref ha, .int (nI cnt), .int (b2 blk), .int pl, .ref tn, .ref bn, .ref w0])), (tw, .inr (3, [.ref wb, .int (nI n)])), (wb, .inl (aB g, 2000, .inl (bf tv))), (tk, .inr (3, [.ref kb, .int (nI nk)])), (kb, .inl (aB g, 2000, .inl (bf t))), (r0, .inr (2, [.ref tk, .int ra, .int rb, .int rc])), (ha, .inl (aQ g, 12, .inr (.inr (.inr (.inr (fun j => some (xa j))))))), (tn, .inl (aB g, 384, .inl (bf v))), (bn, .inl (aB g, 32, .inl (bf v2))), (m0, .inr (1, [.ref ms, .ref mw, .ref mf])), (ms, .inl (aI g, 8, .inl (wf d))), (mw, .inl (aI g, 64, .inl (wf w))), (mf, .inl (aB g, 32, .inl (bf u0))), (w0, .inr (0, [.ref nr, .int (b2 db)])), (nr, .inl (aB g, 384, .inl (bf c)))]
def mWl (g : JX) (o : Nat) (a : Nat → Nat) (n : Nat) (nk : Nat) (blk : Bool) (cnt : Nat) (pl : Int32) (tv : Nat → Nat) (t : Nat → Nat) (F : Nat → Nat → Int32) (vm : Nat → Nat) (r : Nat → Nat) (rt : Nat → Nat) (Q : Nat → Nat) (D : Nat → Nat) (W : Nat → BW) (H : Nat → BW) (Y : Nat → Nat) (X : Nat → Nat) (dbm : Bool) (at_ : Int32) (wr : Int32) (wh : Int32) : va_W := [(o, .inr (6, mo a (nI n) (nI nk) (b2 blk) (nI cnt) pl at_ wr wh (b2 dbm))), (a 0, .inl (aI g, 2000, .inl (nf tv))), (a 1, .inl (aI g, 2000, .inl (nf t))), (a 2, .inl (aI g, 12, .inl (F 2))), (a 3, .inl (aI g, 12, .inl (F 3))), (a 4, .inl (aI g, 12, .inl (F 4))), (a 5, .inl (aI g, 12, .inl (F 5))), (a 6, .inl (aI g, 96, .inl (F 6))), (a 7, .inl (aI g, 96, .inl (F 7))), (a 8, .inl (aI g, 96, .inl (F 8))), (a 9, .inl (aI g, 96, .inl (F 9))), (a 10, .inl (aI g, 96, .inl (F 10))), (a 11, .inl (aI g, 96, .inl (F 11))), (a 12, .inl (aI g, 416, .inl (nf vm))), (a 13, .inl (aI g, 384, .inl (nf r))), (a 14, .inl (aI g, 32, .inl (nf rt))), (a 15, .inl (aI g, 2112, .inl (nf Q))), (a 16, .inl (aI g, 32, .inl (nf D))), (a 17, .inl (aJ g, 64, .inr (.inl (lf64 (bW cK))))), (a 18, .inl (aJ g, 8, .inr (.inl (lf64 (bW cH))))), (a 19, .inl (aJ g, 64, .inr (.inl (lf64 (bW W))))), (a 20, .inl (aJ g, 8, .inr (.inl (lf64 (bW H))))), (a 21, .inl (aJ g, 10, .inr (.inl (lf64 X)))), (a 22, .inl (aJ g, 10, .inr (.inl (lf64 Y))))]
theorem sb_sw (A M T : va_W) : j_Sb (A ++ (M ++ T)) (M ++ (A ++ T)) := by
  refine j_Sb.perm ?_
  rw [← List.append_assoc, ← List.append_assoc]
  exact List.perm_append_comm.append_right T
theorem sb_ct (A B M T : va_W) : j_Sb ((A ++ B) ++ (M ++ T)) ((B ++ T) ++ (A ++ M)) := by
  refine j_Sb.perm ?_
  rw [List.append_assoc, List.append_assoc]
  refine List.perm_append_comm.trans ?_
  rw [List.append_assoc]
  refine List.Perm.append_left B ?_
  rw [List.append_assoc]
  refine List.perm_append_comm.trans ?_
  rw [List.append_assoc]
theorem sb_ct2 (A B M T : va_W) : j_Sb ((B ++ T) ++ (A ++ M)) ((A ++ B) ++ (M ++ T)) := by
  refine j_Sb.perm ?_
  refine List.Perm.symm ?_
  rw [List.append_assoc, List.append_assoc]
  refine List.perm_append_comm.trans ?_
  rw [List.append_assoc]
  refine List.Perm.append_left B ?_
  rw [List.append_assoc]
  refine List.perm_append_comm.trans ?_
  rw [List.append_assoc]
