/-! THE CLAIM OUT OF ONE WALK OF THE LAW'S BODY. Your part is whole_start (and what it stands on); all else here is the same for every law, but numbers. -/
def R_law : String := "WordsBesideLaw"
def lw_P (b : Addr) (xs : List Int32) (args : Array Value) (s : State) : Prop := args = #[.ref b] ∧ s.IntsAt b xs ∧ xs.length ≤ 2560 ∧ (Jvm.Cond.and given_1 narrow_1).before args s = true
def lw_Q (_ : Array Value) (s : State) (o : Outcome) (t : State) : Prop := o = .returned (some (.int 1)) ∧ Framed s o t [] 600000 7302250
def lw_Z (below : List Frame) (a : Array Value) (s : State) : State → Prop := fun t => ∃ o, t.status = .running ∧ Ended t below o ∧ lw_Q a s o t
/-- the law's own end, with 1 on the stack, nothing written that was there before, its room as the claim has it -/
theorem lw_ret {p : Program} {l : Launch} {e : Env} {s : State} {m : MethodId} {below : List Frame} {meth : Method} {c : Code} {b : Nat} (hx : p.tables.exec = Jvm.exec) (hb : c.code = code) (hr : meth.sig.returnType = ret) (hlocks : meth.locks = false) {pc : Nat} {H : Heap} {ls : Array Slot} (hdg : decode code pc = .ok (.ireturn, 1)) : W p l e room_1 s m #[Value.ref b] below meth c H [] 600000 7302250 (lw_Z below #[Value.ref b] s) (F0 m pc ls [.int 1]) := by
  intro T hT X
  obtain ⟨fs, hret, hrun, hended, hW, hframe⟩ := X.leave (v := some (.int 1)) (hlocks := hlocks) (fun h => by rw [hr] at h; cases h)
  have hmeth' : T.vm.method? m = some meth := X.method'
  refine ⟨T.setFrames fs, ?_, .returned (some (.int 1)), hrun, hended, rfl, ⟨_, rfl⟩, hW, hframe⟩
  jvm_step X.here [X.here.top, hx, hb, hdg, hmeth', hr, ret, narrow_b1]
  (try refine ⟨rfl, ?_⟩); (try refine ⟨rfl, ?_⟩)
  first | (intro acts; rw [hret _ acts rfl rfl rfl]) | rw [hret _ _ rfl rfl rfl]
  exact Steps.refl _
/-- what holds at the law's entry: the machine, the code, the tables' words (any of lw_tbl by 'hts w (by decide +kernel)'), the script of L ints xs at the cell b, what the Statement gives of the start (any of its parts by flat_of_before) -/
def lw_At (p : Program) (s : State) (m : MethodId) (meth : Method) (c : Code) (b L : Nat) (xs : Nat → Int32) : Prop :=
  p.tables.exec = Jvm.exec ∧ c.code = code ∧ meth.sig.returnType = ret ∧ c.maxLocals = 4 ∧ s.vm.findClass R_law = some m.cls ∧ (∀ w ∈ lw_tbl, w.before #[Value.ref b] s = true) ∧ va_X b L xs s s.heap ∧ b < s.heap.size ∧ meth.locks = false ∧ (Jvm.Cond.and given_1 narrow_1).before #[Value.ref b] s = true
theorem zlw_and (x : Int32) : ∃ j : Nat, j < 16 ∧ x &&& 15 = nI j := by
  refine ⟨(x &&& 15).toBitVec.toNat, ?_, ?_⟩
  · rw [Int32.toBitVec_and, BitVec.toNat_and]
    exact Nat.lt_of_le_of_lt Nat.and_le_right (by decide +kernel)
  · apply Int32.toBitVec_inj.1
    show (x &&& 15).toBitVec = BitVec.ofNat 32 (x &&& 15).toBitVec.toNat
    simp
theorem zlw_gt {u L : Nat} (hu : u ≤ 2560) (hL : L ≤ 2560) (h : ¬ Int32.ofNat L - 5 < nI u) : u + 5 ≤ L := by
  rcases Nat.lt_or_ge L (u + 5) with q | q
  · refine absurd ?_ h
    rcases Nat.lt_or_ge L 5 with q5 | q5
    · have h0 : Int32.ofNat L - 5 < 0 := by
        rcases (show L = 0 ∨ L = 1 ∨ L = 2 ∨ L = 3 ∨ L = 4 by omega) with rfl | rfl | rfl | rfl | rfl <;> decide +kernel
      exact Int32.lt_of_lt_of_le h0 (nI_pos' (by omega))
    · obtain ⟨k, rfl⟩ : ∃ k, L = k + 5 := ⟨L - 5, by omega⟩
      have e : Int32.ofNat (k + 5) - 5 = nI k := by
        show nI (k + 5) - nI 5 = nI k
        rw [← nI_add]
        exact Int32.add_sub_cancel _ _
      rw [e]
      exact nI_lt (by omega) (by omega)
  · exact q
set_option maxHeartbeats 4000000 in
set_option maxRecDepth 100000 in
/-- the law's loop: at its head, with u ints read, class and reference agree -/
theorem law_loop {p : Program} {l : Launch} {e : Env} {s : State} {m : MethodId} {below : List Frame} {meth : Method} {c : Code} {D : va_G} {cI cZ cW cC : ClassId} {b L : Nat} {xs : Nat → Int32} {aX aM : Nat → Nat} (hL : L ≤ 2560) (C0 : lw_At p s m meth c b L xs) (hK : zq_K D cI cZ cW cC s) :
    ∀ (n u cells slots : Nat) (ws : va_W) (H : Heap) (locs : List Loc) (ls : Array Slot), u ≤ L → L < u + n → 5 * cells ≤ 110 + 2 * u → 5 * slots ≤ 263985 + 1537 * u → zJ cI cZ cW cC aX aM ws → va_P D vwCl ws H → va_D (fun q : Nat => s.heap.size ≤ q) ws → va_S (fun q : Nat => s.heap.size ≤ q) s.heap H locs → lv_has ls 4 [(0, .ref b), (1, .ref (aX 0)), (2, .ref (aM 0)), (3, .int (nI u))] → W p l e room_1 s m #[Value.ref b] below meth c H locs cells slots (lw_Z below #[Value.ref b] s) (F0 m 18 ls []) := by
  obtain ⟨hx, hb, hr, hml, hown, hw, hX, hbl, hlocks, hgv⟩ := C0
  have hts : ∀ w ∈ wsL_law, w.before #[Value.ref b] s = true := fun w h => hw w (zlaw_in w h)
  have hbA : ¬ (fun q : Nat => s.heap.size ≤ q) b := Nat.not_le.mpr hbl
  intro n
  induction n with
  | zero =>
    intro u cells slots ws H locs ls h1 h2
    exact absurd h2 (by omega)
  | succ n ih =>
    intro u cells slots ws H locs ls hu hn hcl hsl hJ hP hD hS hl
    refine lv_iload_n hx hb dL_law_18 rfl (lv_at hl 3 rfl) ?_
    refine lv_aload_n hx hb dL_law_19 rfl (lv_at hl 0 rfl) ?_
    refine va_slen hx hb hX hbl hbA hS dL_law_20 ?_
    refine lv_iconst (v := 5) hx hb dL_law_21 (by decide) ?_
    refine lv_isub hx hb dL_law_22 ?_
    refine lv_icmp_gt (tgt := 579) hx hb dL_law_23 (by decide) (fun c1 => ?_) (fun c1 => ?_)
    · refine lv_iconst (v := 1) hx hb dL_law_579 (by decide) ?_
      refine va_forget (fun q hq => hS.2.2 q hq) ?_
      refine W.widen (k := 600000) (n := 7302250) (by omega) (by omega) ?_
      exact lw_ret hx hb hr hlocks dL_law_580
    · have hu5 : u + 5 ≤ L := zlw_gt (by omega) hL c1
      have kk : ∀ (ws : va_W) (H : Heap) (locs : List Loc), zJ cI cZ cW cC aX aM ws → va_P D vwCl ws H → va_D (fun q : Nat => s.heap.size ≤ q) ws → va_S (fun q : Nat => s.heap.size ≤ q) s.heap H locs → W p l e room_1 s m #[Value.ref b] below meth c H locs (cells + 2) (slots + 1537) (lw_Z below #[Value.ref b] s) (F0 m 573 ls []) := by
        intro ws H locs hJ hP hD hS
        refine lv_iinc (v := nI (u + 5)) (lv' := [(3, .int (nI (u + 5))), (0, .ref b), (1, .ref (aX 0)), (2, .ref (aM 0))]) hx hb dL_law_573 hl (k := 3) rfl (by first | exact nI_add u 5 | (rw [show Int32.ofInt 5 = nI 5 by decide +kernel]; exact nI_add u 5)) (by decide) rfl (fun ls hl => ?_)
        refine lv_goto (tgt := 18) hx hb dL_law_576 (by decide) ?_
        exact ih (u + 5) (cells + 2) (slots + 1537) ws H locs ls hu5 (by omega) (by omega) (by omega) hJ hP hD hS (lv_sub hl [1, 2, 3, 0] rfl)
      refine lv_aload_n hx hb dL_law_26 rfl (lv_at hl 0 rfl) ?_
      refine lv_iload_n hx hb dL_law_27 rfl (lv_at hl 3 rfl) ?_
      refine zq_sld hx hb hX hbl hbA hS u (by omega) hL dL_law_28 ?_
      refine lv_bipush (v := 15) hx hb dL_law_29 (by decide) ?_
      refine lv_iand hx hb dL_law_31 ?_
      obtain ⟨j, hj, ej⟩ := zlw_and (xs u)
      refine zq_te (y := nI j) ej ?_
      have hFx : CallFix p m c code 4 s #[Value.ref b] wsL_law RL := ⟨hx, hb, hml, hown, hts⟩
      have h6 : cells + 2 ≤ 600000 := by omega
      have h7 : slots + 1537 ≤ 7302250 := by omega
      rcases (show j = 0 ∨ j = 1 ∨ j = 2 ∨ j = 3 ∨ j = 4 ∨ j = 5 ∨ j = 6 ∨ j = 7 ∨ j = 8 ∨ j = 9 ∨ j = 10 ∨ j = 11 ∨ j = 12 ∨ j = 13 ∨ j = 14 ∨ j = 15 by omega) with rfl | rfl | rfl | rfl | rfl | rfl | rfl | rfl | rfl | rfl | rfl | rfl | rfl | rfl | rfl | rfl
      · refine lv_tableIn (off := 76) (tgt := 108) hx hb dL_law_32 (by decide +kernel) (by decide +kernel) (by decide +kernel) (by decide) ?_
        exact lk_0 hFx hX hbl hu5 hL h6 h7 hK hJ hP hD hS hl kk
      · refine lv_tableIn (off := 99) (tgt := 131) hx hb dL_law_32 (by decide +kernel) (by decide +kernel) (by decide +kernel) (by decide) ?_
        exact lk_1 hFx hX hbl hu5 hL h6 h7 hK hJ hP hD hS hl kk
      · refine lv_tableIn (off := 132) (tgt := 164) hx hb dL_law_32 (by decide +kernel) (by decide +kernel) (by decide +kernel) (by decide) ?_
        exact lk_2 hFx hX hbl hu5 hL h6 h7 hK hJ hP hD hS hl kk
      · refine lv_tableIn (off := 175) (tgt := 207) hx hb dL_law_32 (by decide +kernel) (by decide +kernel) (by decide +kernel) (by decide) ?_
        exact lk_3 hFx hX hbl hu5 hL h6 h7 hK hJ hP hD hS hl kk
      · refine lv_tableIn (off := 218) (tgt := 250) hx hb dL_law_32 (by decide +kernel) (by decide +kernel) (by decide +kernel) (by decide) ?_
        exact lk_4 hFx hX hbl hu5 hL h6 h7 hK hJ hP hD hS hl kk
      · refine lv_tableIn (off := 231) (tgt := 263) hx hb dL_law_32 (by decide +kernel) (by decide +kernel) (by decide +kernel) (by decide) ?_
        exact lk_5 hFx hX hbl hu5 hL h6 h7 hK hJ hP hD hS hl kk
      · refine lv_tableIn (off := 284) (tgt := 316) hx hb dL_law_32 (by decide +kernel) (by decide +kernel) (by decide +kernel) (by decide) ?_
        exact lk_6 hFx hX hbl hu5 hL h6 h7 hK hJ hP hD hS hl kk
      · refine lv_tableIn (off := 337) (tgt := 369) hx hb dL_law_32 (by decide +kernel) (by decide +kernel) (by decide +kernel) (by decide) ?_
        exact lk_7 hFx hX hbl hu5 hL h6 h7 hK hJ hP hD hS hl kk
      · refine lv_tableIn (off := 370) (tgt := 402) hx hb dL_law_32 (by decide +kernel) (by decide +kernel) (by decide +kernel) (by decide) ?_
        exact lk_8 hFx hX hbl hu5 hL h6 h7 hK hJ hP hD hS hl kk
      · refine lv_tableIn (off := 393) (tgt := 425) hx hb dL_law_32 (by decide +kernel) (by decide +kernel) (by decide +kernel) (by decide) ?_
        exact lk_9 hFx hX hbl hu5 hL h6 h7 hK hJ hP hD hS hl kk
      · refine lv_tableIn (off := 426) (tgt := 458) hx hb dL_law_32 (by decide +kernel) (by decide +kernel) (by decide +kernel) (by decide) ?_
        exact lk_10 hFx hX hbl hu5 hL h6 h7 hK hJ hP hD hS hl kk
      · refine lv_tableIn (off := 449) (tgt := 481) hx hb dL_law_32 (by decide +kernel) (by decide +kernel) (by decide +kernel) (by decide) ?_
        exact lk_11 hFx hX hbl hu5 hL h6 h7 hK hJ hP hD hS hl kk
      · refine lv_tableIn (off := 472) (tgt := 504) hx hb dL_law_32 (by decide +kernel) (by decide +kernel) (by decide +kernel) (by decide) ?_
        exact lk_12 hFx hX hbl hu5 hL h6 h7 hK hJ hP hD hS hl kk
      · refine lv_tableIn (off := 495) (tgt := 527) hx hb dL_law_32 (by decide +kernel) (by decide +kernel) (by decide +kernel) (by decide) ?_
        exact lk_13 hFx hX hbl hu5 hL h6 h7 hK hJ hP hD hS hl kk
      · refine lv_tableIn (off := 518) (tgt := 550) hx hb dL_law_32 (by decide +kernel) (by decide +kernel) (by decide +kernel) (by decide) ?_
        exact lk_14 hFx hX hbl hu5 hL h6 h7 hK hJ hP hD hS hl kk
      · refine lv_tableOut (tgt := 573) hx hb dL_law_32 (Or.inr (by decide +kernel)) (by decide) ?_
        refine W.widen (k := cells + 2) (n := slots + 1537) (by omega) (by omega) ?_
        exact kk ws H locs hJ hP hD hS
def zlw_ws : List Cond := [Cond.arrayClass .int, Cond.arrayClass .boolean, Cond.arrayOver (.object RX2), Cond.arrayOver (.object RX0), Cond.methodLinkNest RX1 18 yX3_isFunction RX3, Cond.methodLinkNest RX1 48 yX3_isWithinLimit RX3, Cond.methodLinkNest RX2 22 yX3_isFunction RX3, Cond.methodLinkNest RX2 26 yX3_isRun RX3, Cond.instantiable RX0 7, Cond.instantiable RX1 2, Cond.instantiable RX2 1, Cond.instantiable RX3 8, Cond.instantiable RX4 14]
theorem zlw_in : ∀ w ∈ zlw_ws, w ∈ lw_tbl := zmem_r _ [62, 441, 73, 75, 112, 186, 195, 196, 227, 50, 64, 42, 392] (by decide +kernel)
theorem zlw_at {a : Array Value} {s : State} (hw : ∀ w ∈ lw_tbl, w.before a s = true) (i : Nat) {w : Cond} (h : zlw_ws[i]? = some w) : w.before a s = true := hw w (zlw_in w (List.mem_of_getElem? h))
theorem zlw_arr {a : Array Value} {s : State} {ty : FieldType} (h : (Cond.arrayClass ty).before a s = true) : ∃ cA : ClassId, ArrOfT s cA ty ∧ s.vm.findClass ("[" ++ ty.toString) = some cA := by
  obtain ⟨cA, kA, comp, h1, h2, h3⟩ := Cond.arrayClass_spec h
  exact ⟨cA, fun n z => ⟨fun k h => (by cases h), kA, h2, comp, h3⟩, h1⟩
theorem zlw_arq {a : Array Value} {s : State} {C : String} (h : (Cond.arrayOver (.object C)).before a s = true) : ∃ cA : ClassId, ArrOfT s cA (.object C) ∧ va_RA s cA (.object C) := by
  obtain ⟨comp, cA, kA, f4, -, f2, f3, f1⟩ := Cond.arrayOver_spec h
  exact ⟨cA, fun n z => ⟨fun k h => (by cases h), kA, f2, comp, f3⟩, kA, comp, f2, f3, f4, f1⟩
/-- what the tables say at the law's start -/
theorem zlw_known {a : Array Value} {s : State} (hw : ∀ w ∈ lw_tbl, w.before a s = true) : ∃ (D : va_G) (cI cZ cW cC : ClassId), zq_K D cI cZ cW cC s := by
  obtain ⟨c0, i0, k0⟩ := u_known (C := RX0) (T := TX0) (N := 7) (n := 7) hw zin_wsX00 (zlw_at hw 8 rfl)
  obtain ⟨c1, i1, k1⟩ := u_known (C := RX1) (T := TX1) (N := 2) (n := 2) hw zin_wsX10 (zlw_at hw 9 rfl)
  obtain ⟨c2, i2, k2⟩ := u_known (C := RX2) (T := TX2) (N := 1) (n := 1) hw zin_wsX20 (zlw_at hw 10 rfl)
  obtain ⟨c3, i3, k3⟩ := u_known (C := RX3) (T := TX3) (N := 8) (n := 8) hw zin_wsX30 (zlw_at hw 11 rfl)
  obtain ⟨c4, i4, k4⟩ := u_known (C := RX4) (T := TX4) (N := 14) (n := 14) hw zin_wsX40 (zlw_at hw 12 rfl)
  obtain ⟨cI, aI, fI⟩ := zlw_arr (ty := .int) (zlw_at hw 0 rfl)
  obtain ⟨cZ, aZ, fZ⟩ := zlw_arr (ty := .boolean) (zlw_at hw 1 rfl)
  obtain ⟨cW, aW, fW⟩ := zlw_arq (C := RX2) (zlw_at hw 2 rfl)
  obtain ⟨cC, aC, fC⟩ := zlw_arq (C := RX0) (zlw_at hw 3 rfl)
  refine ⟨(fun k => if k = 0 then c0 else if k = 1 then c1 else if k = 2 then c2 else if k = 3 then c3 else c4, fun k => if k = 0 then i0 else if k = 1 then i1 else if k = 2 then i2 else if k = 3 then i3 else i4), cI, cZ, cW, cC, ⟨?_, ?_⟩, va_Nw.of rfl (zlw_at hw 4 rfl), va_Nw.of rfl (zlw_at hw 5 rfl), va_Nw.of rfl (zlw_at hw 6 rfl), va_Nw.of rfl (zlw_at hw 7 rfl), va_AO.of (zlw_at hw 2 rfl), va_AO.of (zlw_at hw 3 rfl)⟩
  · intro k q hq
    match k, hq with
    | 0, hq => cases hq; exact k0
    | 1, hq => cases hq; exact k1
    | 2, hq => cases hq; exact k2
    | 3, hq => cases hq; exact k3
    | 4, hq => cases hq; exact k4
    | k + 5, hq => simp at hq
  · intro k q hq
    match k, hq with
    | 0, hq => cases hq; exact ⟨aI, fI⟩
    | 1, hq => cases hq; exact ⟨aZ, fZ⟩
    | 2, hq => cases hq; exact ⟨aW, fW⟩
    | 3, hq => cases hq; exact ⟨aC, fC⟩
    | k + 4, hq => simp at hq
/-- the world as the two constructors leave it -/
theorem zJ_start {cI cZ cW cC : ClassId} {aX aM : Nat → Nat} {fs fc : Nat → Option Nat} {PL : List Nat} {pf : Nat → va_E} {wo go : Nat → Nat} (HW : zPW cI PL pf fs wo go (fun _ _ => 0) 0) :
    zJ cI cZ cW cC aX aM ((cX cI cW cC aX (fun _ => 0) (fun _ => 0) (fun _ => 0) fs fc (fun _ => 0) (nI 6) 0 0 ++ va_pl PL pf) ++ mW cI cZ aM (fun _ => 0) (fun _ => 0) (fun _ => 0) (fun _ => 0) (fun _ => 0) (fun _ => 0) (fun _ => 0) (fun _ => 0) (fun _ => 0) (fun _ => 0) 0 0 0 0) := by
  rw [← nI_0]
  exact zJ_mk (L := fun _ => 0) (k := 0) (n := 0) (sn := 6) (wo := wo) (go := go) (co := fun _ => 0) (fo := fun _ => 0) (bo := fun _ => 0) (Gs := fun _ _ => nI 0) ⟨⟨by omega, by omega, by omega⟩, fun f hf => ⟨rfl, Nat.zero_le 12⟩, fun f hf k hk => absurd hk (Nat.not_lt_zero k), fun f hf r hr => nI_0, fun f hf r hr => nI_0, by rw [nI_0]; exact HW, ⟨fun i hi => absurd hi (by omega), fun i j hi => absurd hi (by omega)⟩, fun i hi => absurd hi (by omega), fun t ht j hj => rfl, fun q hq => nI_0⟩
