set_option maxHeartbeats 4000000 in
set_option maxRecDepth 100000 in
theorem law_all {g : JX} {κ : JK} {b L : Nat} {xs : Nat → Int32} (hL : L ≤ 2048) (C : j_C g κ code "WireDeskLaw" room_1 4) (hX : va_X b L xs (ks κ) (ks κ).heap ∧ b < (ks κ).heap.size ∧ ¬ kA κ b) (hEnd : ∀ (lv : List (Nat × Value)) (ws : va_W), j_V g κ 123 13432 550 lv [.int 1] ws) : j_V g κ 0 0 0 [(0, .ref b)] [] [] := by
  refine j_new (pc := 0) C N_Law_7 (by decide) (by decide) d_Law_law_0 (fun x0 => ?_)
  refine j_dup (pc := 3) C d_Law_law_3 rfl ?_
  refine j_callI (pc := 4) (As := []) (rest := [.ref x0]) (wc := [(x0, .inr (5, [.null, .null, .null, .null, .null, .int (0 : Int32), .int (0 : Int32), .int (0 : Int32), .null, .null, .null]))]) (wr := []) C (c_Dsk_init (kl κ) g x0) Y_Dsk_init rfl ml_Law_9 im_Dsk_init rfl ⟨by decide, by decide⟩ rfl (Nat.le_of_ble_eq_true rfl) (j_sb [0] rfl rfl) rfl d_Law_law_4 (fun r w1 hO => ?_)
  obtain ⟨tw, wb, tk, kb, r0, ha, tn, bn, m0, ms, mw, mf, w0, nr, xa, xb, rfl, rfl⟩ := hO
  refine j_sub (ws' := [(x0, .inr (5, [.ref tw, .ref r0, .ref tk, .ref m0, .ref ha, .int (nI 0), .int (b2 false), .int (-1 : Int32), .ref tn, .ref bn, .ref w0])), (tw, .inr (3, [.ref wb, .int (nI 0)])), (wb, .inl (aB g, 2000, .inl (bf (fun _ => 0)))), (tk, .inr (3, [.ref kb, .int (nI 0)])), (kb, .inl (aB g, 2000, .inl (bf (fun _ => 0)))), (r0, .inr (2, [.ref tk, .int (nI 0), .int (nI 0), .int (-1 : Int32)])), (ha, .inl (aQ g, 12, .inr (.inr (.inr (.inr (fun j => some (xa j))))))), (tn, .inl (aB g, 384, .inl (bf (fun _ => 0)))), (bn, .inl (aB g, 32, .inl (bf (fun _ => 0)))), (m0, .inr (1, [.ref ms, .ref mw, .ref mf])), (ms, .inl (aI g, 8, .inl (wf (fun _ => 0)))), (mw, .inl (aI g, 64, .inl (wf (fun _ => 0)))), (mf, .inl (aB g, 32, .inl (bf (fun _ => 0)))), (w0, .inr (0, [.ref nr, .int (b2 false)])), (nr, .inl (aB g, 384, .inl (bf (fun _ => 0))))] ++ txs g xa xb y00 f00) (by rw [List.append_nil]; exact j_Sb.refl _) ?_
  show j_V g κ 99 5636 7 [(0, .ref b)] [.ref x0] (dWl g x0 tw wb tk kb r0 ha tn bn m0 ms mw mf w0 nr xa 0 false (-1) 0 (fun _ => 0) 0 (fun _ => 0) (nI 0) (nI 0) (-1) (fun _ => 0) (fun _ => 0) (fun _ => 0) (fun _ => 0) (fun _ => 0) false (fun _ => 0) ++ txs g xa xb y00 f00)
  refine j_astore_n (pc := 7) (lv' := [(1, .ref x0), (0, .ref b)]) C d_Law_law_7 rfl (by decide) rfl ?_
  refine j_new (pc := 8) C N_Law_10 (by decide) (by decide) d_Law_law_8 (fun o => ?_)
  refine j_dup (pc := 11) C d_Law_law_11 rfl ?_
  refine j_callI (pc := 12) (As := []) (rest := [.ref o]) (wc := [(o, .inr (6, [.null, .int (0 : Int32), .null, .int (0 : Int32), .int (0 : Int32), .int (0 : Int32), .int (0 : Int32), .int (0 : Int32), .int (0 : Int32), .int (0 : Int32), .null, .null, .null, .null, .null, .null, .null, .null, .null, .null, .null, .null, .null, .int (0 : Int32), .null, .null, .null, .null, .null, .null, .null, .null]))]) (wr := dWl g x0 tw wb tk kb r0 ha tn bn m0 ms mw mf w0 nr xa 0 false (-1) 0 (fun _ => 0) 0 (fun _ => 0) (nI 0) (nI 0) (-1) (fun _ => 0) (fun _ => 0) (fun _ => 0) (fun _ => 0) (fun _ => 0) false (fun _ => 0) ++ txs g xa xb y00 f00) C (c_Mod_init (kl κ) g o) Y_Mod_init rfl ml_Law_12 im_Mod_init rfl ⟨by decide, by decide⟩ rfl (Nat.le_of_ble_eq_true rfl) (j_Sb.swap _ _) rfl d_Law_law_12 (fun r w1 hO => ?_)
  obtain ⟨a, X, Y, rfl, rfl⟩ := hO
  show j_V g κ 123 13432 15 [(1, .ref x0), (0, .ref b)] [.ref o] (mWl g o a 0 0 false 0 (-1) (fun _ => 0) (fun _ => 0) (fun _ => nf (fun _ => 0)) (fun _ => 0) (fun _ => 0) (fun _ => 0) (fun _ => 0) (fun _ => 0) (fun _ => 0) (fun _ => 0) Y X false 0 0 0 ++ (dWl g x0 tw wb tk kb r0 ha tn bn m0 ms mw mf w0 nr xa 0 false (-1) 0 (fun _ => 0) 0 (fun _ => 0) (nI 0) (nI 0) (-1) (fun _ => 0) (fun _ => 0) (fun _ => 0) (fun _ => 0) (fun _ => 0) false (fun _ => 0) ++ txs g xa xb y00 f00))
  refine j_sub (sb_sw _ _ _) ?_
  refine j_astore_n (pc := 15) (lv' := [(2, .ref o), (1, .ref x0), (0, .ref b)]) C d_Law_law_15 rfl (by decide) rfl ?_
  refine j_iconst (pc := 16) (v := nI 0) C d_Law_law_16 (by decide) ?_
  refine j_istore_n (pc := 17) (lv' := [(3, .int (nI 0)), (2, .ref o), (1, .ref x0), (0, .ref b)]) C d_Law_law_17 rfl (by decide) rfl ?_
  refine j_lv (lv' := [(0, .ref b), (1, .ref x0), (2, .ref o), (3, .int (nI 0))]) [3, 2, 1, 0] rfl ?_
  exact lp_law hL C hX hEnd (L + 1) 0 0 0 0 false false false (.inl 0) (-1) (nI 0) (nI 0) (-1) 0 0 0 (fun _ => 0) (fun _ => 0) (fun _ => 0) (fun _ => 0) (fun _ => 0) (fun _ => 0) (fun _ => 0) (fun _ => 0) y00 f00 (fun _ => nf (fun _ => 0)) (fun _ => 0) (fun _ => 0) (fun _ => 0) (fun _ => 0) (fun _ => 0) (fun _ => 0) (fun _ => 0) Y (Nat.zero_le _) (by omega) (Nat.zero_le _) (fun _ => Nat.le_of_ble_eq_true rfl) (DK_0 (fun _ => Nat.le_of_ble_eq_true rfl) (fun _ => Nat.le_of_ble_eq_true rfl) (fun _ => Nat.le_of_ble_eq_true rfl) (fun _ => Nat.le_of_ble_eq_true rfl)) (MK_0 (fun _ => Nat.le_of_ble_eq_true rfl) (fun _ => Nat.le_of_ble_eq_true rfl) (fun _ => Nat.le_of_ble_eq_true rfl)) (fun _ => Nat.le_of_ble_eq_true rfl) (fun _ => Nat.le_of_ble_eq_true rfl) (fun _ => Nat.le_of_ble_eq_true rfl) (fun _ => Nat.le_of_ble_eq_true rfl)
set_option maxHeartbeats 4000000 in
theorem whole_start {p : Program} {e : Env} {s : State} {m : MethodId} {below : List Frame} {meth : Method} {c : Code} (l : Launch) {b L : Nat} {xs : Nat → Int32} (hL : L ≤ 2048) (C0 : lw_At p s m meth c b L xs) : W p l e room_1 s m #[Value.ref b] below meth c s.heap [] 0 0 (lw_Z below #[Value.ref b] s) (entryFrame m ([Value.ref b] : List Value).toArray 4) := by
  obtain ⟨hx, hb, hr, hml, hown, hts, hX, hbl, hlocks, hgv⟩ := id C0
  obtain ⟨g, hG⟩ := jg_start C0
  have hl := lv_entry ([.ref b]) (n := 4) (Nat.le_of_ble_eq_true rfl)
  rw [lg_entry_eq]
  generalize (lg_sl ([.ref b]) ++ List.replicate (4 - (lg_sl ([.ref b])).length) Slot.unset).toArray = ls at hl ⊢
  have hl : lv_has ls 4 [(0, .ref b)] := hl
  have key : j_V g (p, l, e, room_1, s, m, #[Value.ref b], below, meth, c, lw_Z below #[Value.ref b] s, (fun q => s.heap.size ≤ q), 4) 0 0 0 [(0, .ref b)] [] [] := by
    refine law_all (b := b) (L := L) (xs := xs) hL ⟨hx, hb, hown, fun w hw => hts w (TB_tbl hw), hml, rfl, rfl, fun _ h => h, hG⟩ ⟨hX, hbl, Nat.not_le.mpr hbl⟩ ?_
    intro lv ws H locs ls hP hD hS hl
    refine va_forget (fun q hq => hS.2.2 q hq) ?_
    refine W.widen (k := 600000) (n := 7302250) (Nat.le_of_ble_eq_true rfl) (Nat.le_of_ble_eq_true rfl) ?_
    exact lw_ret hx hb hr hlocks d_Law_law_550
  exact key s.heap [] ls (fun k q h => by simp at h) ⟨fun i j p q h => by simp at h, fun k q h => by simp at h⟩ va_S.rf hl
-- ===== YOUR PART ENDS =====
set_option maxHeartbeats 4000000 in
theorem lw_walk (l : Launch) (b : Addr) (xs : List Int32) : MetFree l x (headSpec (Jvm.Cond.code x code maxLocals ret :: tables_1) room_1) (lw_P b xs) (fun _ _ _ _ _ => True) lw_Q := by
  refine MetFree.of_bodyS (code := code) (maxLocals := maxLocals) (ret := ret) (by decide) ?_ ?_
  · intro args s m h hn
    obtain ⟨meth, c, h1, h2, h3, h4, h5, h6, -, -⟩ := Cond.code_spec hn (atoms_spec (ws := Jvm.Cond.code x code maxLocals ret :: tables_1) h _ List.mem_cons_self)
    exact ⟨meth, c, h1, h2, h3, h4, h5, h6⟩
  · intro p e s m args below meth c s₁ B hml0 hP _
    obtain ⟨rfl, hx, hbd, hgv⟩ := hP
    obtain ⟨scr, harrAt, hlist, hof, hsmall⟩ := hx
    obtain ⟨hcb, hkn, -, -⟩ := State.arrayAt?_spec harrAt
    have hown : s.vm.findClass R_law = some m.cls := findClass_of_methodNamed B.named
    have hts0 : ∀ c ∈ (Jvm.Cond.code x code maxLocals ret :: tables_1), c.before #[Value.ref b] s = true := atoms_spec (ws := Jvm.Cond.code x code maxLocals ret :: tables_1) B.pre
    have hts : ∀ w ∈ lw_tbl, w.before #[Value.ref b] s = true := k2_hts_sels lw_privs (fun w hw => hts0 w (List.mem_cons_of_mem _ hw)) lw_privs_ok
    have hml : c.maxLocals = 4 := B.maxLocals_eq (hts0 _ List.mem_cons_self)
    have X₀ : Stand p l e room_1 s m #[Value.ref b] below meth c s₁ [] 0 0 := Stand.of_body B
    have hh0 : s₁.heap = s.heap := by rw [B.state]; rfl
    have hsz : scr.slots.size = xs.length := by rw [← Array.length_toList, hlist, List.length_map]
    have hval : ∀ j : Nat, j < xs.length → scr.slots[j]? = some (.int (xs.getD j 0)) := fun j hj => by
      rw [← Array.getElem?_toList, hlist]
      simp [hj]
    have hbl : b < s.heap.size := (Array.getElem?_eq_some_iff.mp hcb).1
    have hX : va_X b xs.length (fun j => xs.getD j 0) s s.heap := ⟨scr, hcb, hof, hkn, hsz, hval⟩
    have K : W p l e room_1 s m #[Value.ref b] below meth c s₁.heap [] 0 0 (lw_Z below #[Value.ref b] s) (entryFrame m ([Value.ref b] : List Value).toArray 4) := by
      rw [hh0]
      exact whole_start l hbd ⟨B.exec, B.bytes, B.returns, hml, hown, hts, hX, hbl, B.notSynchronized, hgv⟩
    obtain ⟨t, a1, o, b1, b2, b3⟩ := K s₁ rfl X₀
    exact ⟨t, o, a1, b1, b2, b3⟩
theorem lw_pre_spec {args : Array Value} {s : State} (h : (Jvm.Cond.and given_1 narrow_1).before args s = true) (hr : rest_1_c.before args s = true) : ∃ (b : Addr) (xs : List Int32), lw_P b xs args s := by
  have hs := flat_of_before _ h
  have hq := flat_of_before _ hr
  have hc : (Cond.count 1).before args s = true := hs _ (by decide +kernel)
  have harr : (Cond.arrayOf (.arg 0) .int).before args s = true := hs _ (by decide +kernel)
  have hle : (Cond.le (.length (.arg 0)) (.int 2048)).before args s = true := hs _ (by decide +kernel)
  have hlen : (Cond.isInt (.length (.arg 0))).before args s = true := hq _ (by decide +kernel)
  have hall : (Cond.all (.arg 0) (.isInt (.elem (.arg 0) (.index 0)))).before args s = true := hq _ (by decide +kernel)
  obtain ⟨b, xs, hb, hx⟩ := State.ints_of_pre rfl harr hlen hall
  have hsm : xs.length < 2 ^ 31 := hx.choose_spec.2.2.2
  have hev : (Term.length (.arg 0)).eval args s none [] s = some (.int xs.length.toInt32) := hx.length_eval hb
  have hv := Cond.le_ints hev (show (Term.int 2048).eval args s none [] s = some (.int 2048) from rfl)
  have hd : xs.length.toInt32 ≤ 2048 := by
    simpa [Cond.before, Cond.holds, hv] using hle
  have hN : xs.length ≤ 2048 := (Int32.ofNat_le_ofNat hsm (by decide)).mp (show Int32.ofNat xs.length ≤ Int32.ofNat 2048 from hd)
  exact ⟨b, xs, Cond.one_arg hc (show args[0]? = some (.ref b) from hb), hx, hN, h⟩
theorem lw_comes (l : Launch) : Comes l x (Jvm.Cond.code x code maxLocals ret :: tables_1) room_1 (fun tb e args s => Calls_1 tb e args s ∧ rest_1 tb e args s ∧ Pre_1 tb e args s)
    (fun _ _ args s o t => lw_Q args s o t) := by
  intro p e ha hc hk s m args below hf hfit hheap happ hpre
  obtain ⟨b, xs, hP⟩ := lw_pre_spec hpre.2.2 hpre.2.1
  obtain ⟨k, o, h1, h2, h3, hQ⟩ := lw_walk l b xs p e ha hc hk s m args below hf ((Spec.applies_iff_loose hf).mp happ).1 hP trivial
  exact ⟨k, o, h1, h2, h3, hQ⟩
theorem lw_frame {s t : State} {o : Outcome} {args : Array Value} (h : Framed s o t [] 600000 7302250) :
    Framed s o t (fieldLocs frame_1_writes args s ++ arrayLocs frame_1_arrays args s ++ staticLocs frame_1_statics s) 600000 7302250 := h
theorem lw_limb (L : Cond) (hL : ∀ (args : Array Value) (s t : State), L.after args s (.returned (some (.int 1))) t = true) :
    ArmFor flags0 classFile x code maxLocals ret World_1 tables_1 room_1 Calls_1 rest_1 Pre_1
      (fun tb e a s o t => postC L tb e a s o t ∧ Framed s o t (fieldLocs frame_1_writes a s ++ arrayLocs frame_1_arrays a s ++ staticLocs frame_1_statics s) 600000 7302250) := by
  intro l _ _ _ p e ha hc hk s m args below hf hfit hheap happ hpre
  obtain ⟨k, o, h1, h2, h3, rfl, hF⟩ := lw_comes l p e ha hc hk s m args below hf hfit hheap happ hpre
  exact ⟨k, _, h1, h2, h3, hL args s _, lw_frame hF⟩
theorem i_vc : Claimed_1_1 ∧ Claimed_1_2 := ⟨lw_limb limb_1_1 (fun args s t => by simp [limb_1_1, Cond.after, Cond.holds, Cond.value]), lw_limb limb_1_2 (fun args s t => Cond.after_iff.mpr (by
  first | (rw [show limb_1_2 = Cond.eq .result (.int 1) from rfl, Cond.eq_ints (x := 1) (y := 1) rfl rfl]; simp; done) | (simp [limb_1_2, Cond.value, Term.eval]; done)))⟩
