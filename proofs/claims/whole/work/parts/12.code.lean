/-! Code: steps and runs -/
theorem zq_ofWF {l : Launch} {y : MethodName} {wsx wsx' : List Cond} {rm : Room} {Pc : Array Value → State → Prop} {Qc : Array Value → State → Outcome → State → Prop} {mc ms : Nat} {free : Addr → Prop} {cc : ByteArray} {maxL : Nat} {ret : Option FieldType}
    (hy : plainFor y = true) (hw : wsx = Cond.code y cc maxL ret :: wsx')
    (body : ∀ p e s m args below meth c s₁, BodyLoose p l y (headSpec wsx rm) cc maxL ret e s m args below meth c s₁ → c.maxLocals = maxL → Pc args s →
      W p l e (headSpec wsx rm).room s m args below meth c s.heap [] 0 0 (MQ below Qc args s mc ms free) (entryFrame m args maxL)) : Met l y wsx rm Pc Qc mc ms free := by
  refine MetFree.of_bodySF (code := cc) (maxLocals := maxL) (ret := ret) hy ?_ ?_
  · intro args s m h hn
    obtain ⟨meth, c, h1, h2, h3, h4, h5, h6, -, -⟩ := Cond.code_spec hn (atoms_spec (ws := wsx) h _ (by rw [hw]; exact List.mem_cons_self))
    exact ⟨meth, c, h1, h2, h3, h4, h5, h6⟩
  · intro p e s m args below meth c s₁ B hml hP _
    have hh0 : s₁.heap = s.heap := by rw [B.state]; rfl
    obtain ⟨t, a1, o, b1, b2, b3⟩ := body p e s m args below meth c s₁ B hml hP s₁ hh0 (Stand.of_body B)
    exact ⟨t, o, a1, b1, b2, ⟨b3.1, b3.2⟩⟩
theorem zq_roIF {l : Launch} {D : va_G} {cI cZ cW cC : ClassId} {y : MethodName} {wsw w' : List Cond} {rm : Room} {av : List Value} {ws : va_W} {post : Option Value → Prop} {cc : ByteArray} {maxL : Nat} {own : String} (hy : plainFor y = true) (hw : wsw = Cond.code y cc maxL (some .int) :: w') (ho : y.cls = own) (hlen : (lg_sl av).length ≤ maxL)
    (body : zq_rB l D cI cZ cW cC wsw rm av ws cc maxL own (fun p e s m below meth c Q => ∀ (v : Int32) (pc : Nat) (ls' : Array Slot), post (some (.int v)) → decode cc pc = .ok (.ireturn, 1) → W p l e rm s m av.toArray below meth c s.heap [] 0 0 Q (F0 m pc ls' [.int v]))) : zq_ro l D cI cZ cW cC y wsw rm av ws post := by
  refine zq_ofWF (cc := cc) (maxL := maxL) (ret := some .int) hy hw ?_
  intro p e s m args below meth c s₁ B hml hv
  obtain ⟨rfl, hP, hK⟩ := hv
  rw [lg_entry_eq]
  exact body p e s m below meth c _ _ ⟨B.exec, B.bytes, hml, ho ▸ findClass_of_methodNamed B.named, atoms_spec (ws := wsw) B.pre⟩ hP hK (lv_entry av (n := maxL) hlen) (fun v pc ls' hp hd => W.iret B.exec B.bytes B.returns (fun t ht hW => ⟨_, rfl, hp, ht⟩) (fun q h => by cases h) hd B.notSynchronized)
def za (x : Int32) : Int32 := x - x / nI 1000 * nI 1000
def zfm (x y : Int32) : Int32 := if x ^^^ y < 0 ∧ ¬ x - x / y * y = 0 then x - x / y * y + y else x - x / y * y
noncomputable def zaf (G : Nat → Int32) (x v : Int32) (r : Nat) : Int32 :=
  if x / nI 1000 = 0 then za x - nI 500
  else if x / nI 1000 = 1 then v + (za x - nI 500)
  else if x / nI 1000 = 2 then v + (za x - nI 500) * nI (r / 16)
  else if x / nI 1000 = 3 then v + (za x - nI 500) * nI (r % 16)
  else if x / nI 1000 = 4 then v * (za x - nI 500)
  else if x / nI 1000 = 5 then (if za x - nI 500 < v then za x - nI 500 else v)
  else if x / nI 1000 = 6 then (if v < za x - nI 500 then za x - nI 500 else v)
  else if x / nI 1000 = 9 then zgp G (za x) r
  else if x / nI 1000 = 10 then (if za x ≤ 0 then zNO else zfm v (za x))
  else zNO
noncomputable def zwk (G : Nat → Int32) (st : Nat → Int32) (f r : Nat) : Nat → Nat → Bool → Int32 → Int32
  | 0, _, _, v => v
  | n + 1, k, true, v => zwk G st f r n (k + 1) false v
  | n + 1, k, false, v => if st (12 * f + k) / nI 1000 = nI 7 then zwk G st f r n (k + 1) (decide (v < za (st (12 * f + k)) - nI 500)) v
      else if (-1000000 : Int32) ≤ zaf G (st (12 * f + k)) v r ∧ zaf G (st (12 * f + k)) v r ≤ 1000000 then zwk G st f r n (k + 1) false (zaf G (st (12 * f + k)) v r) else zNO
/-- how many of the first n steps of f, but for the one at a place, have OP 9 -/
def zin (st : Nat → Int32) (f : Nat) (pl : Int32) : Nat → Bool := fun k => decide (¬ nI k = pl ∧ st (12 * f + k) / nI 1000 = nI 9)
def zcan (st : Nat → Int32) (f n : Nat) (pl x : Int32) : Bool := decide (¬ x < 0 ∧ ((x.toNatClampNeg / 1000 = 9 ∧ x.toNatClampNeg % 1000 < f ∧ fb_ct (zin st f pl) n < 2) ∨ (x.toNatClampNeg / 1000 = 10 ∧ 1 ≤ x.toNatClampNeg % 1000) ∨ x.toNatClampNeg / 1000 < 9))

theorem w_X1_length__fieldLink_RX1_15_WordsBeside_Code_lengths_I__c3572a : (.fieldLink RX1 15 "WordsBeside$Code" "lengths" "[I" : Cond) ∈ wsX1_length := by decide +kernel
theorem w_X1_length__initialized_RX3_7f12e8 : (.initialized RX3 : Cond) ∈ wsX1_length := by decide +kernel
theorem w_X1_length__static_yX3_isFunction_d3d570 : (.static yX3_isFunction : Cond) ∈ wsX1_length := by decide +kernel
theorem in_X1_length_X1 : ∀ w ∈ wsX10, w ∈ wsX1_length := fun _ h => List.mem_cons_of_mem _ (List.mem_append_right _ h)
set_option maxHeartbeats 4000000 in
set_option maxRecDepth 100000 in
theorem c_X1_length (l : Launch) (D : va_G) (cI cZ cW cC : ClassId) (cd ss sl : Nat) (st ln : Nat → Int32) (f : Nat) (hf : f < 6) : zq_ro l D cI cZ cW cC yX1_length wsX1_length ({ frames := 1, cells := 0, slots := 0, locals := 20 } : Room) [.ref cd, .int (nI f)] [(cd, .inr (1, [.ref ss, .ref sl])), (ss, .inl (cI, 72, .inl st)), (sl, .inl (cI, 6, .inl ln))] (fun v => v = some (.int (ln f))) := by
  refine zq_roI (own := RX1) (by decide) rfl rfl (Nat.le_of_ble_eq_true rfl) ?_
  intro p e s m below meth c Q ls hF hP hK hl ret
  obtain ⟨hx, hb, hml, hown, hts⟩ := hF
  have hl : lv_has ls 2 [(0, .ref cd), (1, .int (nI f))] := hl
  refine lv_iload_n hx hb dX1_length_0 rfl (lv_at hl 1 rfl) ?_
  refine zq_cN (rest := []) ⟨hx, hb, hml, hown, hts⟩ (zq_ro_mono (c_X3_isFunction l D cI cZ cW cC (nI f)) (fun v h => h.resolve_right (fun q => q.2 (zr_nI hf)))) ⟨va_cnB (own := RX1) (index := 18) (host := RX3) 1 hts gX1_length_X3_isFunction_n18 rfl rfl rfl hK.2.1 (hts _ w_X1_length__initialized_RX3_7f12e8) (by decide +kernel) ⟨Nat.le_of_ble_eq_true rfl, Nat.le_of_ble_eq_true rfl⟩, (hts _ w_X1_length__static_yX3_isFunction_d3d570), trivial⟩ hK (fun k q h => by simp at h) rfl hl.1 rfl (Nat.le_of_ble_eq_true rfl) dX1_length_1 ⟨Nat.le_of_ble_eq_true rfl, Nat.le_of_ble_eq_true rfl⟩ (fun v hv => ?_)
  obtain ⟨rfl, hyf⟩ := hv
  refine W.eq (g2 := F0 m 4 ls [.int (1 : Int32)]) rfl ?_
  refine lv_if_eq (tgt := 16) hx hb dX1_length_4 (by decide) (fun c4 => absurd c4 (by decide)) (fun c4 => ?_)
  refine lv_aload_n hx hb dX1_length_7 rfl (lv_at hl 0 rfl) ?_
  refine zq_get hx hb hts in_X1_length_X1 hown hK hP 0 rfl rfl 1 (by decide) (hts _ w_X1_length__fieldLink_RX1_15_WordsBeside_Code_lengths_I__c3572a) rfl dX1_length_8 ?_
  refine lv_iload_n hx hb dX1_length_11 rfl (lv_at hl 1 rfl) ?_
  refine zq_ild hx hb hK hP 2 rfl f rfl (by omega) (by decide) dX1_length_12 ?_
  refine lv_goto (tgt := 17) hx hb dX1_length_13 (by decide) ?_
  exact ret _ _ _ rfl dX1_length_17
theorem w_X1_at__fieldLink_RX1_9_WordsBeside_Code_steps_I__23634e : (.fieldLink RX1 9 "WordsBeside$Code" "steps" "[I" : Cond) ∈ wsX1_at := by decide +kernel
theorem w_X1_at__initialized_RX3_7f12e8 : (.initialized RX3 : Cond) ∈ wsX1_at := by decide +kernel
theorem w_X1_at__static_yX3_isFunction_d3d570 : (.static yX3_isFunction : Cond) ∈ wsX1_at := by decide +kernel
theorem in_X1_at_X1 : ∀ w ∈ wsX10, w ∈ wsX1_at := fun _ h => List.mem_cons_of_mem _ (List.mem_append_right _ h)
set_option maxHeartbeats 4000000 in
set_option maxRecDepth 100000 in
theorem c_X1_at (l : Launch) (D : va_G) (cI cZ cW cC : ClassId) (cd ss sl : Nat) (st ln : Nat → Int32) (f : Nat) (hf : f < 6) (k : Nat) (hk : k < 12) : zq_ro l D cI cZ cW cC yX1_at wsX1_at ({ frames := 1, cells := 0, slots := 0, locals := 20 } : Room) [.ref cd, .int (nI f), .int (nI k)] [(cd, .inr (1, [.ref ss, .ref sl])), (ss, .inl (cI, 72, .inl st)), (sl, .inl (cI, 6, .inl ln))] (fun v => v = some (.int (st (12 * f + k)))) := by
  refine zq_roI (own := RX1) (by decide) rfl rfl (Nat.le_of_ble_eq_true rfl) ?_
  intro p e s m below meth c Q ls hF hP hK hl ret
  obtain ⟨hx, hb, hml, hown, hts⟩ := hF
  have hl : lv_has ls 3 [(0, .ref cd), (1, .int (nI f)), (2, .int (nI k))] := hl
  refine lv_iload_n hx hb dX1_at_0 rfl (lv_at hl 1 rfl) ?_
  refine zq_cN (rest := []) ⟨hx, hb, hml, hown, hts⟩ (zq_ro_mono (c_X3_isFunction l D cI cZ cW cC (nI f)) (fun v h => h.resolve_right (fun q => q.2 (zr_nI hf)))) ⟨va_cnB (own := RX1) (index := 18) (host := RX3) 1 hts gX1_at_X3_isFunction_n18 rfl rfl rfl hK.2.1 (hts _ w_X1_at__initialized_RX3_7f12e8) (by decide +kernel) ⟨Nat.le_of_ble_eq_true rfl, Nat.le_of_ble_eq_true rfl⟩, (hts _ w_X1_at__static_yX3_isFunction_d3d570), trivial⟩ hK (fun k q h => by simp at h) rfl hl.1 rfl (Nat.le_of_ble_eq_true rfl) dX1_at_1 ⟨Nat.le_of_ble_eq_true rfl, Nat.le_of_ble_eq_true rfl⟩ (fun v hv => ?_)
  obtain ⟨rfl, hyf⟩ := hv
  refine W.eq (g2 := F0 m 4 ls [.int (1 : Int32)]) rfl ?_
  refine lv_if_eq (tgt := 17) hx hb dX1_at_4 (by decide) (fun c4 => absurd c4 (by decide)) (fun c4 => ?_)
  refine lv_iload_n hx hb dX1_at_7 rfl (lv_at hl 2 rfl) ?_
  refine lv_if_lt (tgt := 17) hx hb dX1_at_8 (by decide) (fun c8 => absurd c8 (nI_pos (by omega))) (fun c8 => ?_)
  refine lv_iload_n hx hb dX1_at_11 rfl (lv_at hl 2 rfl) ?_
  refine lv_bipush (v := (nI 12)) hx hb dX1_at_12 (by decide) ?_
  refine lv_icmp_lt (tgt := 19) hx hb dX1_at_14 (by decide) (fun c14 => ?_) (fun c14 => absurd (nI_lt hk (by omega)) c14)
  refine lv_aload_n hx hb dX1_at_19 rfl (lv_at hl 0 rfl) ?_
  refine zq_get hx hb hts in_X1_at_X1 hown hK hP 0 rfl rfl 0 (by decide) (hts _ w_X1_at__fieldLink_RX1_9_WordsBeside_Code_steps_I__23634e) rfl dX1_at_20 ?_
  refine lv_iload_n hx hb dX1_at_23 rfl (lv_at hl 1 rfl) ?_
  refine lv_bipush (v := (nI 12)) hx hb dX1_at_24 (by decide) ?_
  refine lv_imul hx hb dX1_at_26 ?_
  refine lv_iload_n hx hb dX1_at_27 rfl (lv_at hl 2 rfl) ?_
  refine lv_iadd hx hb dX1_at_28 ?_
  refine zq_ild hx hb hK hP 1 rfl (12 * f + k) (by simp only [pk_mul, nI_add] <;> (congr 1; omega)) (by omega) (by decide) dX1_at_29 ?_
  exact ret _ _ _ rfl dX1_at_30
set_option maxHeartbeats 4000000 in
set_option maxRecDepth 100000 in
theorem c_X1_innerStepsBut (l : Launch) (D : va_G) (cI cZ cW cC : ClassId) (cd ss sl : Nat) (st ln : Nat → Int32) (f : Nat) (hf : f < 6) (n : Nat) (hn : n ≤ 12) (hln : ln f = nI n) (pl : Int32) : zq_ro l D cI cZ cW cC yX1_innerStepsBut wsX1_innerStepsBut ({ frames := 2, cells := 0, slots := 0, locals := 42 } : Room) [.ref cd, .int (nI f), .int pl] [(cd, .inr (1, [.ref ss, .ref sl])), (ss, .inl (cI, 72, .inl st)), (sl, .inl (cI, 6, .inl ln))] (fun v => v = some (.int (nI (fb_ct (zin st f pl) n)))) := by
  refine zq_roI (own := RX1) (by decide) rfl rfl (Nat.le_of_ble_eq_true rfl) ?_
  intro p e s m below meth c Q ls hF hP hK hl ret
  obtain ⟨hx, hb, hml, hown, hts⟩ := hF
  have hl : lv_has ls 5 [(0, .ref cd), (1, .int (nI f)), (2, .int pl)] := hl
  refine lv_iconst (v := (0 : Int32)) hx hb dX1_innerStepsBut_0 (by decide) ?_
  refine lv_istore_n (lv' := [(3, .int (nI 0)), (0, .ref cd), (1, .int (nI f)), (2, .int pl)]) hx hb dX1_innerStepsBut_1 rfl hl (by decide) rfl (fun ls hl => ?_)
  refine lv_iconst (v := (0 : Int32)) hx hb dX1_innerStepsBut_2 (by decide) ?_
  refine lv_istore (lv' := [(4, .int (nI 0)), (3, .int (nI 0)), (0, .ref cd), (1, .int (nI f)), (2, .int pl)]) hx hb dX1_innerStepsBut_3 hl (by decide) rfl (fun ls hl => ?_)
  have loop5 : ∀ (fu5 : Nat) (k a : Nat) (ls : Array Slot), (n - k) < fu5 → (k ≤ n) → (a = fb_ct (zin st f pl) k) → lv_has ls 5 [(0, .ref cd), (1, .int (nI f)), (2, .int pl), (3, .int (nI a)), (4, .int (nI k))] → W p l e ({ frames := 2, cells := 0, slots := 0, locals := 42 } : Room) s m ([.ref cd, .int (nI f), .int pl] : List Value).toArray below meth c s.heap [] 0 0 Q (F0 m 5 ls []) := by
    intro fu5
    induction fu5 with
    | zero => intro _ _ _ hmu; exact absurd hmu (Nat.not_lt_zero _)
    | succ fu5 ih5 =>
      intro k a ls hmu5 hk ea hl
      have hfb := fb_ct_le (zin st f pl) k
      refine lv_iload hx hb dX1_innerStepsBut_5 (lv_at hl 4 rfl) ?_
      refine lv_aload_n hx hb dX1_innerStepsBut_7 rfl (lv_at hl 0 rfl) ?_
      refine lv_iload_n hx hb dX1_innerStepsBut_8 rfl (lv_at hl 1 rfl) ?_
      refine zq_cV (rest := [.int (nI k)]) ⟨hx, hb, hml, hown, hts⟩ (zq_ro_mono (c_X1_length l D cI cZ cW cC cd ss sl st ln f hf) (fun v h => h.trans (congrArg (fun z => some (Value.int z)) hln))) (cwV 1 hts gX1_innerStepsBut_X1_length rfl rfl rfl (by decide +kernel) ⟨Nat.le_of_ble_eq_true rfl, Nat.le_of_ble_eq_true rfl⟩) hK hP 1 0 rfl rfl rfl hl.1 rfl (Nat.le_of_ble_eq_true rfl) dX1_innerStepsBut_9 ⟨Nat.le_of_ble_eq_true rfl, Nat.le_of_ble_eq_true rfl⟩ (fun v hv => ?_)
      obtain rfl := hv
      refine W.eq (g2 := F0 m 12 ls [.int (nI n), .int (nI k)]) rfl ?_
      refine lv_icmp_ge (tgt := 46) hx hb dX1_innerStepsBut_12 (by decide) (fun c12 => ?_) (fun c12 => ?_)
      · have h12 := zle c12
        refine lv_iload_n hx hb dX1_innerStepsBut_46 rfl (lv_at hl 3 rfl) ?_
        exact ret _ _ _ (by rw [ea, show k = n by omega]) dX1_innerStepsBut_47
      · have h12 := znle c12
        refine lv_iload hx hb dX1_innerStepsBut_15 (lv_at hl 4 rfl) ?_
        refine lv_iload_n hx hb dX1_innerStepsBut_17 rfl (lv_at hl 2 rfl) ?_
        refine lv_icmp_eq (tgt := 40) hx hb dX1_innerStepsBut_18 (by decide) (fun c18 => ?_) (fun c18 => ?_)
        · refine lv_iinc (v := (nI (k + 1))) (lv' := [(4, .int (nI (k + 1))), (0, .ref cd), (1, .int (nI f)), (2, .int pl), (3, .int (nI a))]) hx hb dX1_innerStepsBut_40 hl (k := 4) rfl ((nI_succ _).symm) (by decide) rfl (fun ls hl => ?_)
          refine lv_goto (tgt := 5) hx hb dX1_innerStepsBut_43 (by decide) ?_
          exact ih5 (k + 1) a ls (by omega) (by omega) (by rw [fb_ct_succ, ← ea, if_neg (by simp [zin, c18]), Nat.add_zero]) (lv_sub hl [1, 2, 3, 4, 0] rfl)
        · refine lv_aload_n hx hb dX1_innerStepsBut_21 rfl (lv_at hl 0 rfl) ?_
          refine lv_iload_n hx hb dX1_innerStepsBut_22 rfl (lv_at hl 1 rfl) ?_
          refine lv_iload hx hb dX1_innerStepsBut_23 (lv_at hl 4 rfl) ?_
          refine zq_cV (rest := []) ⟨hx, hb, hml, hown, hts⟩ (c_X1_at l D cI cZ cW cC cd ss sl st ln f hf k (by omega)) (cwV 2 hts gX1_innerStepsBut_X1_at rfl rfl rfl (by decide +kernel) ⟨Nat.le_of_ble_eq_true rfl, Nat.le_of_ble_eq_true rfl⟩) hK hP 1 0 rfl rfl rfl hl.1 rfl (Nat.le_of_ble_eq_true rfl) dX1_innerStepsBut_25 ⟨Nat.le_of_ble_eq_true rfl, Nat.le_of_ble_eq_true rfl⟩ (fun v hv => ?_)
          obtain rfl := hv
          refine W.eq (g2 := F0 m 28 ls [.int (st (12 * f + k))]) rfl ?_
          refine lv_sipush (v := (nI 1000)) hx hb dX1_innerStepsBut_28 (by decide) ?_
          refine lv_idiv hx hb dX1_innerStepsBut_31 (nI_ne0 (by omega) (by omega)) ?_
          refine lv_bipush (v := (nI 9)) hx hb dX1_innerStepsBut_32 (by decide) ?_
          refine lv_icmp_ne (tgt := 40) hx hb dX1_innerStepsBut_34 (by decide) (fun c34 => ?_) (fun c34 => ?_)
          · refine lv_iinc (v := (nI (k + 1))) (lv' := [(4, .int (nI (k + 1))), (0, .ref cd), (1, .int (nI f)), (2, .int pl), (3, .int (nI a))]) hx hb dX1_innerStepsBut_40 hl (k := 4) rfl ((nI_succ _).symm) (by decide) rfl (fun ls hl => ?_)
            refine lv_goto (tgt := 5) hx hb dX1_innerStepsBut_43 (by decide) ?_
            exact ih5 (k + 1) a ls (by omega) (by omega) (by rw [fb_ct_succ, ← ea, if_neg (by simp [zin, c34]), Nat.add_zero]) (lv_sub hl [1, 2, 3, 4, 0] rfl)
          · refine lv_iinc (v := (nI (a + 1))) (lv' := [(3, .int (nI (a + 1))), (0, .ref cd), (1, .int (nI f)), (2, .int pl), (4, .int (nI k))]) hx hb dX1_innerStepsBut_37 hl (k := 3) rfl ((nI_succ _).symm) (by decide) rfl (fun ls hl => ?_)
            refine lv_iinc (v := (nI (k + 1))) (lv' := [(4, .int (nI (k + 1))), (3, .int (nI (a + 1))), (0, .ref cd), (1, .int (nI f)), (2, .int pl)]) hx hb dX1_innerStepsBut_40 hl (k := 4) rfl ((nI_succ _).symm) (by decide) rfl (fun ls hl => ?_)
            refine lv_goto (tgt := 5) hx hb dX1_innerStepsBut_43 (by decide) ?_
            exact ih5 (k + 1) (a + 1) ls (by omega) (by omega) (by rw [fb_ct_succ, ← ea, if_pos (by simp [zin, c18, c34])]) (lv_sub hl [2, 3, 4, 1, 0] rfl)
  exact loop5 (n + 1) 0 0 ls (by omega) (by omega) rfl (lv_sub hl [2, 3, 4, 1, 0] rfl)
set_option maxHeartbeats 4000000 in
set_option maxRecDepth 100000 in
theorem c_X1_canStand (l : Launch) (D : va_G) (cI cZ cW cC : ClassId) (cd ss sl : Nat) (st ln : Nat → Int32) (f : Nat) (hf : f < 6) (n : Nat) (hn : n ≤ 12) (hln : ln f = nI n) (pl x : Int32) : zq_ro l D cI cZ cW cC yX1_canStand wsX1_canStand ({ frames := 3, cells := 0, slots := 0, locals := 66 } : Room) [.ref cd, .int (nI f), .int pl, .int x] [(cd, .inr (1, [.ref ss, .ref sl])), (ss, .inl (cI, 72, .inl st)), (sl, .inl (cI, 6, .inl ln))] (fun v => v = some (.int (if zcan st f n pl x then 1 else 0))) := by
  refine zq_roZ (own := RX1) (by decide) rfl rfl (Nat.le_of_ble_eq_true rfl) ?_
  intro p e s m below meth c Q ls hF hP hK hl ret
  obtain ⟨hx, hb, hml, hown, hts⟩ := hF
  have hl : lv_has ls 6 [(0, .ref cd), (1, .int (nI f)), (2, .int pl), (3, .int x)] := hl
  have hfb := fb_ct_le (zin st f pl) n
  refine lv_iload_n hx hb dX1_canStand_0 rfl (lv_at hl 3 rfl) ?_
  refine lv_if_ge (tgt := 6) hx hb dX1_canStand_1 (by decide) (fun c1 => ?_) (fun c1 => ?_)
  · obtain ⟨xn, hxn, rfl⟩ := nI_of (Int32.not_lt.mpr c1)
    have hcl : (nI xn).toNatClampNeg = xn := nI_clamp hxn
    refine lv_iload_n hx hb dX1_canStand_6 rfl (lv_at hl 3 rfl) ?_
    refine lv_sipush (v := (nI 1000)) hx hb dX1_canStand_7 (by decide) ?_
    refine lv_idiv hx hb dX1_canStand_10 (nI_ne0 (by omega) (by omega)) ?_
    refine zq_te (y := (nI (xn / 1000))) (pk_div hxn (by omega) (by omega)) ?_
    refine lv_istore (lv' := [(4, .int (nI (xn / 1000))), (0, .ref cd), (1, .int (nI f)), (2, .int pl), (3, .int (nI xn))]) hx hb dX1_canStand_11 hl (by decide) rfl (fun ls hl => ?_)
    refine lv_iload_n hx hb dX1_canStand_13 rfl (lv_at hl 4 rfl) ?_
    refine lv_sipush (v := (nI 1000)) hx hb dX1_canStand_14 (by decide) ?_
    refine lv_irem hx hb dX1_canStand_17 (nI_ne0 (by omega) (by omega)) ?_
    refine zq_te (y := (nI (xn % 1000))) (pk_rem hxn (by omega) (by omega)) ?_
    refine lv_istore (lv' := [(5, .int (nI (xn % 1000))), (4, .int (nI (xn / 1000))), (0, .ref cd), (1, .int (nI f)), (2, .int pl), (3, .int (nI xn))]) hx hb dX1_canStand_18 hl (by decide) rfl (fun ls hl => ?_)
    refine lv_iload hx hb dX1_canStand_20 (lv_at hl 1 rfl) ?_
    refine lv_bipush (v := (nI 9)) hx hb dX1_canStand_22 (by decide) ?_
    refine lv_icmp_ne (tgt := 49) hx hb dX1_canStand_24 (by decide) (fun c24 => ?_) (fun c24 => ?_)
    · have h24 := zne c24
      refine lv_iload hx hb dX1_canStand_49 (lv_at hl 1 rfl) ?_
      refine lv_bipush (v := (nI 10)) hx hb dX1_canStand_51 (by decide) ?_
      refine lv_icmp_ne (tgt := 68) hx hb dX1_canStand_53 (by decide) (fun c53 => ?_) (fun c53 => ?_)
      · have h53 := zne c53
        refine lv_iload hx hb dX1_canStand_68 (lv_at hl 1 rfl) ?_
        refine lv_bipush (v := (nI 9)) hx hb dX1_canStand_70 (by decide) ?_
        refine lv_icmp_ge (tgt := 79) hx hb dX1_canStand_72 (by decide) (fun c72 => ?_) (fun c72 => ?_)
        · have h72 := zle c72
          refine lv_iconst (v := (0 : Int32)) hx hb dX1_canStand_79 (by decide) ?_
          exact ret _ _ _ (Or.inl rfl) (by simp [zcan, hcl, c1, Int32.not_lt.mpr c1]; omega) dX1_canStand_80
        · have h72 := znle c72
          refine lv_iconst (v := (1 : Int32)) hx hb dX1_canStand_75 (by decide) ?_
          refine lv_goto (tgt := 80) hx hb dX1_canStand_76 (by decide) ?_
          exact ret _ _ _ (Or.inr rfl) (by simp [zcan, hcl, c1, Int32.not_lt.mpr c1]; omega) dX1_canStand_80
      · have h53 := zeq c53
        refine lv_iload hx hb dX1_canStand_56 (lv_at hl 0 rfl) ?_
        refine lv_iconst (v := (nI 1)) hx hb dX1_canStand_58 (by decide) ?_
        refine lv_icmp_lt (tgt := 66) hx hb dX1_canStand_59 (by decide) (fun c59 => ?_) (fun c59 => ?_)
        · have h59 := zlt c59
          refine lv_iconst (v := (0 : Int32)) hx hb dX1_canStand_66 (by decide) ?_
          exact ret _ _ _ (Or.inl rfl) (by simp [zcan, hcl, c1, Int32.not_lt.mpr c1]; omega) dX1_canStand_67
        · have h59 := znlt c59
          refine lv_iconst (v := (1 : Int32)) hx hb dX1_canStand_62 (by decide) ?_
          refine lv_goto (tgt := 67) hx hb dX1_canStand_63 (by decide) ?_
          exact ret _ _ _ (Or.inr rfl) (by simp [zcan, hcl, c1, Int32.not_lt.mpr c1]; omega) dX1_canStand_67
    · have h24 := zeq c24
      refine lv_iload hx hb dX1_canStand_27 (lv_at hl 0 rfl) ?_
      refine lv_iload_n hx hb dX1_canStand_29 rfl (lv_at hl 3 rfl) ?_
      refine lv_icmp_ge (tgt := 47) hx hb dX1_canStand_30 (by decide) (fun c30 => ?_) (fun c30 => ?_)
      · have h30 := zle c30
        refine lv_iconst (v := (0 : Int32)) hx hb dX1_canStand_47 (by decide) ?_
        exact ret _ _ _ (Or.inl rfl) (by simp [zcan, hcl, c1, Int32.not_lt.mpr c1]; omega) dX1_canStand_48
      · have h30 := znle c30
        refine lv_aload_n hx hb dX1_canStand_33 rfl (lv_at hl 2 rfl) ?_
        refine lv_iload_n hx hb dX1_canStand_34 rfl (lv_at hl 3 rfl) ?_
        refine lv_iload_n hx hb dX1_canStand_35 rfl (lv_at hl 4 rfl) ?_
        refine zq_cV (rest := []) ⟨hx, hb, hml, hown, hts⟩ (c_X1_innerStepsBut l D cI cZ cW cC cd ss sl st ln f hf n hn hln pl) (cwV 2 hts gX1_canStand_X1_innerStepsBut rfl rfl rfl (by decide +kernel) ⟨Nat.le_of_ble_eq_true rfl, Nat.le_of_ble_eq_true rfl⟩) hK hP 1 0 rfl rfl rfl hl.1 rfl (Nat.le_of_ble_eq_true rfl) dX1_canStand_36 ⟨Nat.le_of_ble_eq_true rfl, Nat.le_of_ble_eq_true rfl⟩ (fun v hv => ?_)
        obtain rfl := hv
        refine W.eq (g2 := F0 m 39 ls [.int (nI (fb_ct (zin st f pl) n))]) rfl ?_
        refine lv_iconst (v := (nI 2)) hx hb dX1_canStand_39 (by decide) ?_
        refine lv_icmp_ge (tgt := 47) hx hb dX1_canStand_40 (by decide) (fun c40 => ?_) (fun c40 => ?_)
        · have h40 := zle c40
          refine lv_iconst (v := (0 : Int32)) hx hb dX1_canStand_47 (by decide) ?_
          exact ret _ _ _ (Or.inl rfl) (by simp [zcan, hcl, c1, Int32.not_lt.mpr c1]; omega) dX1_canStand_48
        · have h40 := znle c40
          refine lv_iconst (v := (1 : Int32)) hx hb dX1_canStand_43 (by decide) ?_
          refine lv_goto (tgt := 48) hx hb dX1_canStand_44 (by decide) ?_
          exact ret _ _ _ (Or.inr rfl) (by simp [zcan, hcl, c1, Int32.not_lt.mpr c1]; omega) dX1_canStand_48
  · refine lv_iconst (v := (0 : Int32)) hx hb dX1_canStand_4 (by decide) ?_
    exact ret _ _ _ (Or.inl rfl) (by simp [zcan, Int32.not_le.mp c1]) dX1_canStand_5
set_option maxHeartbeats 4000000 in
set_option maxRecDepth 100000 in
theorem c_J9_floorMod_7cf53 (l : Launch) (D : va_G) (cI cZ cW cC : ClassId) (x y : Int32) (hy0 : ¬ y = 0) : zq_ro l D cI cZ cW cC yJ9_floorMod_7cf53 wsJ9_floorMod_7cf53 ({ frames := 0, cells := 0, slots := 0, locals := 0 } : Room) [.int x, .int y] [] (fun v => v = some (.int (zfm x y))) := by
  refine zq_roIF (own := RJ9) (by decide +kernel) rfl rfl (Nat.le_of_ble_eq_true rfl) ?_
  intro p e s m below meth c Q ls hF hP hK hl ret
  obtain ⟨hx, hb, hml, hown, hts⟩ := hF
  have hl : lv_has ls 3 [(0, .int x), (1, .int y)] := hl
  refine lv_iload_n hx hb dJ9_floorMod_7cf53_0 rfl (lv_at hl 0 rfl) ?_
  refine lv_iload_n hx hb dJ9_floorMod_7cf53_1 rfl (lv_at hl 1 rfl) ?_
  refine lv_irem hx hb dJ9_floorMod_7cf53_2 hy0 ?_
  refine lv_istore_n (lv' := [(2, .int (x - x / y * y)), (0, .int x), (1, .int y)]) hx hb dJ9_floorMod_7cf53_3 rfl hl (by decide) rfl (fun ls hl => ?_)
  refine lv_iload_n hx hb dJ9_floorMod_7cf53_4 rfl (lv_at hl 1 rfl) ?_
  refine lv_iload_n hx hb dJ9_floorMod_7cf53_5 rfl (lv_at hl 2 rfl) ?_
  refine lv_ixor hx hb dJ9_floorMod_7cf53_6 ?_
  refine lv_if_ge (tgt := 18) hx hb dJ9_floorMod_7cf53_7 (by decide) (fun c7 => ?_) (fun c7 => ?_)
  · refine lv_iload_n hx hb dJ9_floorMod_7cf53_18 rfl (lv_at hl 0 rfl) ?_
    exact ret _ _ _ (by rw [zfm, if_neg (fun q => absurd q.1 (Int32.not_lt.mpr c7))]) dJ9_floorMod_7cf53_19
  · refine lv_iload_n hx hb dJ9_floorMod_7cf53_10 rfl (lv_at hl 0 rfl) ?_
    refine lv_if_eq (tgt := 18) hx hb dJ9_floorMod_7cf53_11 (by decide) (fun c11 => ?_) (fun c11 => ?_)
    · refine lv_iload_n hx hb dJ9_floorMod_7cf53_18 rfl (lv_at hl 0 rfl) ?_
      exact ret _ _ _ (by rw [zfm, if_neg (fun q => q.2 c11)]) dJ9_floorMod_7cf53_19
    · refine lv_iload_n hx hb dJ9_floorMod_7cf53_14 rfl (lv_at hl 0 rfl) ?_
      refine lv_iload_n hx hb dJ9_floorMod_7cf53_15 rfl (lv_at hl 2 rfl) ?_
      refine lv_iadd hx hb dJ9_floorMod_7cf53_16 ?_
      exact ret _ _ _ (by rw [zfm, if_pos ⟨Int32.not_le.mp c7, c11⟩]) dJ9_floorMod_7cf53_17
theorem w_X1_after__code_Lib_Math_max_name_Lib_Math_max_code_2_some_int__b6349a : (.code Lib.Math.max.name Lib.Math.max.code 2 (some .int) : Cond) ∈ wsX1_after := by decide +kernel
theorem w_X1_after__code_Lib_Math_min_name_Lib_Math_min_code_2_some_int__0fd793 : (.code Lib.Math.min.name Lib.Math.min.code 2 (some .int) : Cond) ∈ wsX1_after := by decide +kernel
theorem w_X1_after__constant_RX1_51_2147483648__a74791 : (.constant RX1 51 (-2147483648) : Cond) ∈ wsX1_after := by decide +kernel
theorem w_X1_after__initialized_java_lang_Math__868a92 : (.initialized "java/lang/Math" : Cond) ∈ wsX1_after := by decide +kernel
theorem w_X1_after__methodLink_RX1_52_Lib_Math_min_name_de4724 : (.methodLink RX1 52 Lib.Math.min.name : Cond) ∈ wsX1_after := by decide +kernel
theorem w_X1_after__methodLink_RX1_57_Lib_Math_max_name_e50f67 : (.methodLink RX1 57 Lib.Math.max.name : Cond) ∈ wsX1_after := by decide +kernel
theorem w_X1_after__static_Lib_Math_max_name_80a2ec : (.static Lib.Math.max.name : Cond) ∈ wsX1_after := by decide +kernel
theorem w_X1_after__static_Lib_Math_min_name_79b26a : (.static Lib.Math.min.name : Cond) ∈ wsX1_after := by decide +kernel
set_option maxHeartbeats 4000000 in
set_option maxRecDepth 100000 in
theorem c_X1_after (l : Launch) (D : va_G) (cI cZ cW cC : ClassId) (w g : Nat) (G : Nat → Int32) (x u : Int32) (r : Nat) (hr : r < 256) : zq_ro l D cI cZ cW cC yX1_after wsX1_after ({ frames := 1, cells := 0, slots := 0, locals := 22 } : Room) [.int x, .int u, .int (nI r), .ref w] [(w, .inr (2, [.ref g])), (g, .inl (cI, 1536, .inl G))] (fun v => v = some (.int (zaf G x u r))) := by
  refine zq_roI (own := RX1) (by decide) rfl rfl (Nat.le_of_ble_eq_true rfl) ?_
  intro p e s m below meth c Q ls hF hP hK hl ret
  obtain ⟨hx, hb, hml, hown, hts⟩ := hF
  have hl : lv_has ls 6 [(0, .int x), (1, .int u), (2, .int (nI r)), (3, .ref w)] := hl
  refine lv_iload_n hx hb dX1_after_0 rfl (lv_at hl 0 rfl) ?_
  refine lv_sipush (v := (nI 1000)) hx hb dX1_after_1 (by decide) ?_
  refine lv_irem hx hb dX1_after_4 (nI_ne0 (by omega) (by omega)) ?_
  refine zq_te (y := (za x)) rfl ?_
  refine lv_istore (lv' := [(4, .int (za x)), (0, .int x), (1, .int u), (2, .int (nI r)), (3, .ref w)]) hx hb dX1_after_5 hl (by decide) rfl (fun ls hl => ?_)
  refine lv_iload hx hb dX1_after_7 (lv_at hl 0 rfl) ?_
  refine lv_sipush (v := (nI 500)) hx hb dX1_after_9 (by decide) ?_
  refine lv_isub hx hb dX1_after_12 ?_
  refine lv_istore (lv' := [(5, .int ((za x) - (nI 500))), (4, .int (za x)), (0, .int x), (1, .int u), (2, .int (nI r)), (3, .ref w)]) hx hb dX1_after_13 hl (by decide) rfl (fun ls hl => ?_)
  refine lv_iload_n hx hb dX1_after_15 rfl (lv_at hl 2 rfl) ?_
  refine lv_sipush (v := (nI 1000)) hx hb dX1_after_16 (by decide) ?_
  refine lv_idiv hx hb dX1_after_19 (nI_ne0 (by omega) (by omega)) ?_
  by_cases k20_0 : (x / (nI 1000)) = (0 : Int32)
  · refine lv_tableIn (tgt := 80) hx hb dX1_after_20 (by rw [k20_0]; decide) (by rw [k20_0]; decide) (by rw [k20_0]; rfl) (by decide) ?_
    refine lv_iload hx hb dX1_after_80 (lv_at hl 0 rfl) ?_
    exact ret _ _ _ (by simp [zaf, k20_0]) dX1_after_82
  · by_cases k20_1 : (x / (nI 1000)) = (1 : Int32)
    · refine lv_tableIn (tgt := 83) hx hb dX1_after_20 (by rw [k20_1]; decide) (by rw [k20_1]; decide) (by rw [k20_1]; rfl) (by decide) ?_
      refine lv_iload_n hx hb dX1_after_83 rfl (lv_at hl 3 rfl) ?_
      refine lv_iload hx hb dX1_after_84 (lv_at hl 0 rfl) ?_
      refine lv_iadd hx hb dX1_after_86 ?_
      exact ret _ _ _ (by simp [zaf, k20_1]) dX1_after_87
    · by_cases k20_2 : (x / (nI 1000)) = (2 : Int32)
      · refine lv_tableIn (tgt := 88) hx hb dX1_after_20 (by rw [k20_2]; decide) (by rw [k20_2]; decide) (by rw [k20_2]; rfl) (by decide) ?_
        refine lv_iload_n hx hb dX1_after_88 rfl (lv_at hl 3 rfl) ?_
        refine lv_iload hx hb dX1_after_89 (lv_at hl 0 rfl) ?_
        refine lv_iload_n hx hb dX1_after_91 rfl (lv_at hl 4 rfl) ?_
        refine lv_bipush (v := (nI 16)) hx hb dX1_after_92 (by decide) ?_
        refine lv_idiv hx hb dX1_after_94 (by decide) ?_
        refine zq_te (y := (nI (r / 16))) (pk_div (by omega) (by omega) (by omega)) ?_
        refine lv_imul hx hb dX1_after_95 ?_
        refine lv_iadd hx hb dX1_after_96 ?_
        exact ret _ _ _ (by simp [zaf, k20_2]) dX1_after_97
      · by_cases k20_3 : (x / (nI 1000)) = (3 : Int32)
        · refine lv_tableIn (tgt := 98) hx hb dX1_after_20 (by rw [k20_3]; decide) (by rw [k20_3]; decide) (by rw [k20_3]; rfl) (by decide) ?_
          refine lv_iload_n hx hb dX1_after_98 rfl (lv_at hl 3 rfl) ?_
          refine lv_iload hx hb dX1_after_99 (lv_at hl 0 rfl) ?_
          refine lv_iload_n hx hb dX1_after_101 rfl (lv_at hl 4 rfl) ?_
          refine lv_bipush (v := (nI 16)) hx hb dX1_after_102 (by decide) ?_
          refine lv_irem hx hb dX1_after_104 (by decide) ?_
          refine zq_te (y := (nI (r % 16))) (pk_rem (by omega) (by omega) (by omega)) ?_
          refine lv_imul hx hb dX1_after_105 ?_
          refine lv_iadd hx hb dX1_after_106 ?_
          exact ret _ _ _ (by simp [zaf, k20_3]) dX1_after_107
        · by_cases k20_4 : (x / (nI 1000)) = (4 : Int32)
          · refine lv_tableIn (tgt := 108) hx hb dX1_after_20 (by rw [k20_4]; decide) (by rw [k20_4]; decide) (by rw [k20_4]; rfl) (by decide) ?_
            refine lv_iload_n hx hb dX1_after_108 rfl (lv_at hl 3 rfl) ?_
            refine lv_iload hx hb dX1_after_109 (lv_at hl 0 rfl) ?_
            refine lv_imul hx hb dX1_after_111 ?_
            exact ret _ _ _ (by simp [zaf, k20_4]) dX1_after_112
          · by_cases k20_5 : (x / (nI 1000)) = (5 : Int32)
            · refine lv_tableIn (tgt := 113) hx hb dX1_after_20 (by rw [k20_5]; decide) (by rw [k20_5]; decide) (by rw [k20_5]; rfl) (by decide) ?_
              refine lv_iload_n hx hb dX1_after_113 rfl (lv_at hl 3 rfl) ?_
              refine lv_iload hx hb dX1_after_114 (lv_at hl 0 rfl) ?_
              refine va_mmin hx hb (hml.trans hl.1.symm) hown (hts _ w_X1_after__methodLink_RX1_52_Lib_Math_min_name_de4724) (hts _ w_X1_after__static_Lib_Math_min_name_79b26a) (hts _ w_X1_after__initialized_java_lang_Math__868a92) (hts _ w_X1_after__code_Lib_Math_min_name_Lib_Math_min_code_2_some_int__0fd793) (Nat.le_of_ble_eq_true rfl) (Nat.le_of_ble_eq_true rfl) (Nat.le_of_ble_eq_true rfl) (Nat.le_of_ble_eq_true rfl) dX1_after_116 ?_
              exact ret _ _ _ (by simp [zaf, k20_5]) dX1_after_119
            · by_cases k20_6 : (x / (nI 1000)) = (6 : Int32)
              · refine lv_tableIn (tgt := 120) hx hb dX1_after_20 (by rw [k20_6]; decide) (by rw [k20_6]; decide) (by rw [k20_6]; rfl) (by decide) ?_
                refine lv_iload_n hx hb dX1_after_120 rfl (lv_at hl 3 rfl) ?_
                refine lv_iload hx hb dX1_after_121 (lv_at hl 0 rfl) ?_
                refine va_mmax hx hb (hml.trans hl.1.symm) hown (hts _ w_X1_after__methodLink_RX1_57_Lib_Math_max_name_e50f67) (hts _ w_X1_after__static_Lib_Math_max_name_80a2ec) (hts _ w_X1_after__initialized_java_lang_Math__868a92) (hts _ w_X1_after__code_Lib_Math_max_name_Lib_Math_max_code_2_some_int__b6349a) (Nat.le_of_ble_eq_true rfl) (Nat.le_of_ble_eq_true rfl) (Nat.le_of_ble_eq_true rfl) (Nat.le_of_ble_eq_true rfl) dX1_after_123 ?_
                exact ret _ _ _ (by simp [zaf, k20_6]) dX1_after_126
              · by_cases k20_7 : (x / (nI 1000)) = (7 : Int32)
                · refine lv_tableIn (tgt := 155) hx hb dX1_after_20 (by rw [k20_7]; decide) (by rw [k20_7]; decide) (by rw [k20_7]; rfl) (by decide) ?_
                  refine lv_ldc (v := (-2147483648 : Int32)) hx hb hown (hts _ w_X1_after__constant_RX1_51_2147483648__a74791) dX1_after_155 ?_
                  exact ret _ _ _ (by simp [zaf, k20_7]) dX1_after_157
                · by_cases k20_8 : (x / (nI 1000)) = (8 : Int32)
                  · refine lv_tableIn (tgt := 127) hx hb dX1_after_20 (by rw [k20_8]; decide) (by rw [k20_8]; decide) (by rw [k20_8]; rfl) (by decide) ?_
                    refine lv_ldc (v := (-2147483648 : Int32)) hx hb hown (hts _ w_X1_after__constant_RX1_51_2147483648__a74791) dX1_after_127 ?_
                    exact ret _ _ _ (by simp [zaf, k20_8]) dX1_after_129
                  · by_cases k20_9 : (x / (nI 1000)) = (9 : Int32)
                    · refine lv_tableIn (tgt := 130) hx hb dX1_after_20 (by rw [k20_9]; decide) (by rw [k20_9]; decide) (by rw [k20_9]; rfl) (by decide) ?_
                      refine lv_aload_n hx hb dX1_after_130 rfl (lv_at hl 5 rfl) ?_
                      refine lv_iload hx hb dX1_after_131 (lv_at hl 1 rfl) ?_
                      refine lv_iload_n hx hb dX1_after_133 rfl (lv_at hl 4 rfl) ?_
                      refine zq_cV (rest := []) ⟨hx, hb, hml, hown, hts⟩ (zq_ro_mono (c_X2_given l D cI cZ cW cC w g G (za x) (nI r)) (fun v h => h.trans (congrArg (fun z => some (Value.int z)) (zg_p hr)))) (cwV 2 hts gX1_after_X2_given rfl rfl rfl (by decide +kernel) ⟨Nat.le_of_ble_eq_true rfl, Nat.le_of_ble_eq_true rfl⟩) hK hP 2 0 rfl rfl rfl hl.1 rfl (Nat.le_of_ble_eq_true rfl) dX1_after_134 ⟨Nat.le_of_ble_eq_true rfl, Nat.le_of_ble_eq_true rfl⟩ (fun v hv => ?_)
                      obtain rfl := hv
                      refine W.eq (g2 := F0 m 137 ls [.int (zgp G (za x) r)]) rfl ?_
                      exact ret _ _ _ (by simp [zaf, k20_9]) dX1_after_137
                    · by_cases k20_10 : (x / (nI 1000)) = (10 : Int32)
                      · refine lv_tableIn (tgt := 138) hx hb dX1_after_20 (by rw [k20_10]; decide) (by rw [k20_10]; decide) (by rw [k20_10]; rfl) (by decide) ?_
                        refine lv_iload hx hb dX1_after_138 (lv_at hl 1 rfl) ?_
                        refine lv_if_le (tgt := 152) hx hb dX1_after_140 (by decide) (fun c140 => ?_) (fun c140 => ?_)
                        · refine lv_ldc (v := (-2147483648 : Int32)) hx hb hown (hts _ w_X1_after__constant_RX1_51_2147483648__a74791) dX1_after_152 ?_
                          exact ret _ _ _ (by simp [zaf, k20_10, c140, Int32.not_lt.mpr c140]) dX1_after_154
                        · refine lv_iload_n hx hb dX1_after_143 rfl (lv_at hl 3 rfl) ?_
                          refine lv_iload hx hb dX1_after_144 (lv_at hl 1 rfl) ?_
                          refine zq_cS (rest := []) ⟨hx, hb, hml, hown, hts⟩ (c_J9_floorMod_7cf53 l D cI cZ cW cC u (za x) (fun h => c140 (by rw [h]; decide))) (va_cwS 2 hts gX1_after_J9_floorMod_7cf53 rfl rfl rfl (by decide +kernel) ⟨Nat.le_of_ble_eq_true rfl, Nat.le_of_ble_eq_true rfl⟩) hK (fun k q h => by simp at h) rfl hl.1 rfl (Nat.le_of_ble_eq_true rfl) dX1_after_146 ⟨Nat.le_of_ble_eq_true rfl, Nat.le_of_ble_eq_true rfl⟩ (fun v hv => ?_)
                          obtain rfl := hv
                          refine W.eq (g2 := F0 m 149 ls [.int (zfm u (za x))]) rfl ?_
                          refine lv_goto (tgt := 154) hx hb dX1_after_149 (by decide) ?_
                          exact ret _ _ _ (by simp [zaf, k20_10, c140, Int32.not_le.mp c140]) dX1_after_154
                      · refine lv_tableOut (tgt := 155) hx hb dX1_after_20 (by have k20_0T := lv_neT k20_0 (a := 0) rfl; have k20_1T := lv_neT k20_1 (a := 1) rfl; have k20_2T := lv_neT k20_2 (a := 2) rfl; have k20_3T := lv_neT k20_3 (a := 3) rfl; have k20_4T := lv_neT k20_4 (a := 4) rfl; have k20_5T := lv_neT k20_5 (a := 5) rfl; have k20_6T := lv_neT k20_6 (a := 6) rfl; have k20_7T := lv_neT k20_7 (a := 7) rfl; have k20_8T := lv_neT k20_8 (a := 8) rfl; have k20_9T := lv_neT k20_9 (a := 9) rfl; have k20_10T := lv_neT k20_10 (a := 10) rfl; omega) (by decide) ?_
                        refine lv_ldc (v := (-2147483648 : Int32)) hx hb hown (hts _ w_X1_after__constant_RX1_51_2147483648__a74791) dX1_after_155 ?_
                        exact ret _ _ _ (by simp [zaf, k20_0, k20_1, k20_2, k20_3, k20_4, k20_5, k20_6, k20_7, k20_8, k20_9, k20_10]) dX1_after_157
theorem w_X1_goThrough__constant_RX1_51_2147483648__a74791 : (.constant RX1 51 (-2147483648) : Cond) ∈ wsX1_goThrough := by decide +kernel
theorem w_X1_goThrough__initialized_RX3_7f12e8 : (.initialized RX3 : Cond) ∈ wsX1_goThrough := by decide +kernel
theorem w_X1_goThrough__static_yX3_isWithinLimit_eac379 : (.static yX3_isWithinLimit : Cond) ∈ wsX1_goThrough := by decide +kernel
set_option maxHeartbeats 4000000 in
set_option maxRecDepth 100000 in
theorem c_X1_goThrough (l : Launch) (D : va_G) (cI cZ cW cC : ClassId) (cd ss sl : Nat) (st ln : Nat → Int32) (f : Nat) (hf : f < 6) (n : Nat) (hn : n ≤ 12) (hln : ln f = nI n) (w g : Nat) (G : Nat → Int32) (r : Nat) (hr : r < 256) : zq_ro l D cI cZ cW cC yX1_goThrough wsX1_goThrough ({ frames := 2, cells := 0, slots := 0, locals := 47 } : Room) [.ref cd, .int (nI f), .int (nI r), .ref w] [(cd, .inr (1, [.ref ss, .ref sl])), (ss, .inl (cI, 72, .inl st)), (sl, .inl (cI, 6, .inl ln)), (w, .inr (2, [.ref g])), (g, .inl (cI, 1536, .inl G))] (fun v => v = some (.int (zwk G st f r n 0 false 0))) := by
  refine zq_roI (own := RX1) (by decide) rfl rfl (Nat.le_of_ble_eq_true rfl) ?_
  intro p e s m below meth c Q ls hF hP hK hl ret
  obtain ⟨hx, hb, hml, hown, hts⟩ := hF
  have hl : lv_has ls 9 [(0, .ref cd), (1, .int (nI f)), (2, .int (nI r)), (3, .ref w)] := hl
  refine lv_iconst (v := (0 : Int32)) hx hb dX1_goThrough_0 (by decide) ?_
  refine lv_istore (lv' := [(4, .int (0 : Int32)), (0, .ref cd), (1, .int (nI f)), (2, .int (nI r)), (3, .ref w)]) hx hb dX1_goThrough_1 hl (by decide) rfl (fun ls hl => ?_)
  refine lv_iconst (v := (0 : Int32)) hx hb dX1_goThrough_3 (by decide) ?_
  refine lv_istore (lv' := [(5, .int (0 : Int32)), (4, .int (0 : Int32)), (0, .ref cd), (1, .int (nI f)), (2, .int (nI r)), (3, .ref w)]) hx hb dX1_goThrough_4 hl (by decide) rfl (fun ls hl => ?_)
  refine lv_aload_n hx hb dX1_goThrough_6 rfl (lv_at hl 2 rfl) ?_
  refine lv_iload_n hx hb dX1_goThrough_7 rfl (lv_at hl 3 rfl) ?_
  refine zq_cV (rest := []) ⟨hx, hb, hml, hown, hts⟩ (zq_ro_mono (c_X1_length l D cI cZ cW cC cd ss sl st ln f hf) (fun v h => h.trans (congrArg (fun z => some (Value.int z)) hln))) (cwV 1 hts gX1_goThrough_X1_length rfl rfl rfl (by decide +kernel) ⟨Nat.le_of_ble_eq_true rfl, Nat.le_of_ble_eq_true rfl⟩) hK (hP.sub [0, 1, 2] rfl) 1 0 rfl rfl rfl hl.1 rfl (Nat.le_of_ble_eq_true rfl) dX1_goThrough_8 ⟨Nat.le_of_ble_eq_true rfl, Nat.le_of_ble_eq_true rfl⟩ (fun v hv => ?_)
  obtain rfl := hv
  refine W.eq (g2 := F0 m 11 ls [.int (nI n)]) rfl ?_
  refine lv_istore (lv' := [(6, .int (nI n)), (5, .int (0 : Int32)), (4, .int (0 : Int32)), (0, .ref cd), (1, .int (nI f)), (2, .int (nI r)), (3, .ref w)]) hx hb dX1_goThrough_11 hl (by decide) rfl (fun ls hl => ?_)
  refine lv_iconst (v := (nI 0)) hx hb dX1_goThrough_13 (by decide) ?_
  refine lv_istore (lv' := [(7, .int (nI 0)), (6, .int (nI n)), (5, .int (0 : Int32)), (4, .int (0 : Int32)), (0, .ref cd), (1, .int (nI f)), (2, .int (nI r)), (3, .ref w)]) hx hb dX1_goThrough_14 hl (by decide) rfl (fun ls hl => ?_)
  have loop16 : ∀ (fu16 : Nat) (k j : Nat) (b : Bool) (u : Int32) (ls : Array Slot), (j) < fu16 → (k + j = n) → (zwk G st f r n 0 false 0 = zwk G st f r j k b u) → lv_has ls 9 [(0, .ref cd), (1, .int (nI f)), (2, .int (nI r)), (3, .ref w), (4, .int u), (5, .int (if b then (1 : Int32) else 0)), (6, .int (nI n)), (7, .int (nI k))] → W p l e ({ frames := 2, cells := 0, slots := 0, locals := 47 } : Room) s m ([.ref cd, .int (nI f), .int (nI r), .ref w] : List Value).toArray below meth c s.heap [] 0 0 Q (F0 m 16 ls []) := by
    intro fu16
    induction fu16 with
    | zero => intro _ _ _ _ _ hmu; exact absurd hmu (Nat.not_lt_zero _)
    | succ fu16 ih16 =>
      intro k j b u ls hmu16 hk hz hl
      refine lv_iload hx hb dX1_goThrough_16 (lv_at hl 7 rfl) ?_
      refine lv_iload hx hb dX1_goThrough_18 (lv_at hl 6 rfl) ?_
      refine lv_icmp_ge (tgt := 107) hx hb dX1_goThrough_20 (by decide) (fun c20 => ?_) (fun c20 => ?_)
      · have h20 := zle c20
        refine lv_iload hx hb dX1_goThrough_107 (lv_at hl 4 rfl) ?_
        exact ret _ _ _ (by rw [hz, show j = 0 by omega, zwk]) dX1_goThrough_109
      · have h20 := znle c20
        obtain ⟨j, rfl⟩ : ∃ i, j = i + 1 := ⟨j - 1, by omega⟩
        refine lv_aload_n hx hb dX1_goThrough_23 rfl (lv_at hl 0 rfl) ?_
        refine lv_iload_n hx hb dX1_goThrough_24 rfl (lv_at hl 1 rfl) ?_
        refine lv_iload hx hb dX1_goThrough_25 (lv_at hl 7 rfl) ?_
        refine zq_cV (rest := []) ⟨hx, hb, hml, hown, hts⟩ (c_X1_at l D cI cZ cW cC cd ss sl st ln f hf k (by omega)) (cwV 2 hts gX1_goThrough_X1_at rfl rfl rfl (by decide +kernel) ⟨Nat.le_of_ble_eq_true rfl, Nat.le_of_ble_eq_true rfl⟩) hK (hP.sub [0, 1, 2] rfl) 1 0 rfl rfl rfl hl.1 rfl (Nat.le_of_ble_eq_true rfl) dX1_goThrough_27 ⟨Nat.le_of_ble_eq_true rfl, Nat.le_of_ble_eq_true rfl⟩ (fun v hv => ?_)
        obtain rfl := hv
        refine W.eq (g2 := F0 m 30 ls [.int (st (12 * f + k))]) rfl ?_
        refine lv_istore (lv' := [(8, .int (st (12 * f + k))), (0, .ref cd), (1, .int (nI f)), (2, .int (nI r)), (3, .ref w), (4, .int u), (5, .int (if b then (1 : Int32) else 0)), (6, .int (nI n)), (7, .int (nI k))]) hx hb dX1_goThrough_30 hl (by decide) rfl (fun ls hl => ?_)
        refine lv_iload hx hb dX1_goThrough_32 (lv_at hl 6 rfl) ?_
        refine lv_if_eq (tgt := 43) hx hb dX1_goThrough_34 (by decide) (fun c34 => ?_) (fun c34 => ?_)
        · have hb2 : b = false := by
            cases b
            · rfl
            · exact absurd c34 (by decide)
          subst hb2
          refine lv_iload hx hb dX1_goThrough_43 (lv_at hl 0 rfl) ?_
          refine lv_sipush (v := (nI 1000)) hx hb dX1_goThrough_45 (by decide) ?_
          refine lv_idiv hx hb dX1_goThrough_48 (nI_ne0 (by omega) (by omega)) ?_
          refine lv_bipush (v := (nI 7)) hx hb dX1_goThrough_49 (by decide) ?_
          refine lv_icmp_ne (tgt := 79) hx hb dX1_goThrough_51 (by decide) (fun c51 => ?_) (fun c51 => ?_)
          · refine lv_iload hx hb dX1_goThrough_79 (lv_at hl 0 rfl) ?_
            refine lv_iload hx hb dX1_goThrough_81 (lv_at hl 5 rfl) ?_
            refine lv_iload_n hx hb dX1_goThrough_83 rfl (lv_at hl 3 rfl) ?_
            refine lv_aload_n hx hb dX1_goThrough_84 rfl (lv_at hl 4 rfl) ?_
            refine zq_cS (rest := []) ⟨hx, hb, hml, hown, hts⟩ (c_X1_after l D cI cZ cW cC w g G (st (12 * f + k)) u r hr) (va_cwS 4 hts gX1_goThrough_X1_after rfl rfl rfl (by decide +kernel) ⟨Nat.le_of_ble_eq_true rfl, Nat.le_of_ble_eq_true rfl⟩) hK (hP.sub [3, 4] rfl) rfl hl.1 rfl (Nat.le_of_ble_eq_true rfl) dX1_goThrough_85 ⟨Nat.le_of_ble_eq_true rfl, Nat.le_of_ble_eq_true rfl⟩ (fun v hv => ?_)
            obtain rfl := hv
            refine W.eq (g2 := F0 m 88 ls [.int (zaf G (st (12 * f + k)) u r)]) rfl ?_
            refine lv_istore (lv' := [(4, .int (zaf G (st (12 * f + k)) u r)), (8, .int (st (12 * f + k))), (0, .ref cd), (1, .int (nI f)), (2, .int (nI r)), (3, .ref w), (5, .int (if false then (1 : Int32) else 0)), (6, .int (nI n)), (7, .int (nI k))]) hx hb dX1_goThrough_88 hl (by decide) rfl (fun ls hl => ?_)
            refine lv_iload hx hb dX1_goThrough_90 (lv_at hl 0 rfl) ?_
            refine zq_cN (rest := []) ⟨hx, hb, hml, hown, hts⟩ (c_X3_isWithinLimit l D cI cZ cW cC (zaf G (st (12 * f + k)) u r)) ⟨va_cnB (own := RX1) (index := 48) (host := RX3) 1 hts gX1_goThrough_X3_isWithinLimit_n48 rfl rfl rfl hK.2.2.1 (hts _ w_X1_goThrough__initialized_RX3_7f12e8) (by decide +kernel) ⟨Nat.le_of_ble_eq_true rfl, Nat.le_of_ble_eq_true rfl⟩, (hts _ w_X1_goThrough__static_yX3_isWithinLimit_eac379), trivial⟩ hK (fun k q h => by simp at h) rfl hl.1 rfl (Nat.le_of_ble_eq_true rfl) dX1_goThrough_92 ⟨Nat.le_of_ble_eq_true rfl, Nat.le_of_ble_eq_true rfl⟩ (fun v hv => ?_)
            rcases hv with ⟨rfl, hyw⟩ | ⟨rfl, hyw⟩
            · refine W.eq (g2 := F0 m 95 ls [.int (1 : Int32)]) rfl ?_
              refine lv_if_ne (tgt := 101) hx hb dX1_goThrough_95 (by decide) (fun c95 => ?_) (fun c95 => absurd c95 (by decide))
              refine lv_iinc (v := (nI (k + 1))) (lv' := [(7, .int (nI (k + 1))), (4, .int (zaf G (st (12 * f + k)) u r)), (8, .int (st (12 * f + k))), (0, .ref cd), (1, .int (nI f)), (2, .int (nI r)), (3, .ref w), (5, .int (if false then (1 : Int32) else 0)), (6, .int (nI n))]) hx hb dX1_goThrough_101 hl (k := 8) rfl ((nI_succ _).symm) (by decide) rfl (fun ls hl => ?_)
              refine lv_goto (tgt := 16) hx hb dX1_goThrough_104 (by decide) ?_
              exact ih16 (k + 1) j false (zaf G (st (12 * f + k)) u r) ls (by omega) (by omega) (by rw [hz, zwk, if_neg c51, if_pos hyw]) (lv_sub hl [3, 4, 5, 6, 1, 7, 8, 0] rfl)
            · refine W.eq (g2 := F0 m 95 ls [.int (0 : Int32)]) rfl ?_
              refine lv_if_ne (tgt := 101) hx hb dX1_goThrough_95 (by decide) (fun c95 => absurd c95 (by decide)) (fun c95 => ?_)
              refine lv_ldc (v := (-2147483648 : Int32)) hx hb hown (hts _ w_X1_goThrough__constant_RX1_51_2147483648__a74791) dX1_goThrough_98 ?_
              exact ret _ _ _ (by rw [hz, zwk, if_neg c51, if_neg (fun q => hyw.elim (fun z => absurd q.1 (Int32.not_le.mpr z)) (fun z => absurd q.2 (Int32.not_le.mpr z)))]) dX1_goThrough_100
          · refine lv_iload hx hb dX1_goThrough_54 (lv_at hl 5 rfl) ?_
            refine lv_iload hx hb dX1_goThrough_56 (lv_at hl 0 rfl) ?_
            refine lv_sipush (v := (nI 1000)) hx hb dX1_goThrough_58 (by decide) ?_
            refine lv_irem hx hb dX1_goThrough_61 (nI_ne0 (by omega) (by omega)) ?_
            refine zq_te (y := (za (st (12 * f + k)))) rfl ?_
            refine lv_sipush (v := (nI 500)) hx hb dX1_goThrough_62 (by decide) ?_
            refine lv_isub hx hb dX1_goThrough_65 ?_
            refine lv_icmp_ge (tgt := 73) hx hb dX1_goThrough_66 (by decide) (fun c66 => ?_) (fun c66 => ?_)
            · refine lv_iconst (v := (0 : Int32)) hx hb dX1_goThrough_73 (by decide) ?_
              refine lv_istore (lv' := [(5, .int (0 : Int32)), (8, .int (st (12 * f + k))), (0, .ref cd), (1, .int (nI f)), (2, .int (nI r)), (3, .ref w), (4, .int u), (6, .int (nI n)), (7, .int (nI k))]) hx hb dX1_goThrough_74 hl (by decide) rfl (fun ls hl => ?_)
              refine lv_goto (tgt := 101) hx hb dX1_goThrough_76 (by decide) ?_
              refine lv_iinc (v := (nI (k + 1))) (lv' := [(7, .int (nI (k + 1))), (5, .int (0 : Int32)), (8, .int (st (12 * f + k))), (0, .ref cd), (1, .int (nI f)), (2, .int (nI r)), (3, .ref w), (4, .int u), (6, .int (nI n))]) hx hb dX1_goThrough_101 hl (k := 8) rfl ((nI_succ _).symm) (by decide) rfl (fun ls hl => ?_)
              refine lv_goto (tgt := 16) hx hb dX1_goThrough_104 (by decide) ?_
              exact ih16 (k + 1) j false u ls (by omega) (by omega) (by rw [hz, zwk, if_pos c51, decide_eq_false (Int32.not_lt.mpr c66)]) (lv_sub hl [3, 4, 5, 6, 7, 1, 8, 0] rfl)
            · refine lv_iconst (v := (1 : Int32)) hx hb dX1_goThrough_69 (by decide) ?_
              refine lv_goto (tgt := 74) hx hb dX1_goThrough_70 (by decide) ?_
              refine lv_istore (lv' := [(5, .int (1 : Int32)), (8, .int (st (12 * f + k))), (0, .ref cd), (1, .int (nI f)), (2, .int (nI r)), (3, .ref w), (4, .int u), (6, .int (nI n)), (7, .int (nI k))]) hx hb dX1_goThrough_74 hl (by decide) rfl (fun ls hl => ?_)
              refine lv_goto (tgt := 101) hx hb dX1_goThrough_76 (by decide) ?_
              refine lv_iinc (v := (nI (k + 1))) (lv' := [(7, .int (nI (k + 1))), (5, .int (1 : Int32)), (8, .int (st (12 * f + k))), (0, .ref cd), (1, .int (nI f)), (2, .int (nI r)), (3, .ref w), (4, .int u), (6, .int (nI n))]) hx hb dX1_goThrough_101 hl (k := 8) rfl ((nI_succ _).symm) (by decide) rfl (fun ls hl => ?_)
              refine lv_goto (tgt := 16) hx hb dX1_goThrough_104 (by decide) ?_
              exact ih16 (k + 1) j true u ls (by omega) (by omega) (by rw [hz, zwk, if_pos c51, decide_eq_true (Int32.not_le.mp c66)]) (lv_sub hl [3, 4, 5, 6, 7, 1, 8, 0] rfl)
        · have hb2 : b = true := by
            cases b
            · exact absurd rfl c34
            · rfl
          subst hb2
          refine lv_iconst (v := (0 : Int32)) hx hb dX1_goThrough_37 (by decide) ?_
          refine lv_istore (lv' := [(5, .int (0 : Int32)), (8, .int (st (12 * f + k))), (0, .ref cd), (1, .int (nI f)), (2, .int (nI r)), (3, .ref w), (4, .int u), (6, .int (nI n)), (7, .int (nI k))]) hx hb dX1_goThrough_38 hl (by decide) rfl (fun ls hl => ?_)
          refine lv_goto (tgt := 101) hx hb dX1_goThrough_40 (by decide) ?_
          refine lv_iinc (v := (nI (k + 1))) (lv' := [(7, .int (nI (k + 1))), (5, .int (0 : Int32)), (8, .int (st (12 * f + k))), (0, .ref cd), (1, .int (nI f)), (2, .int (nI r)), (3, .ref w), (4, .int u), (6, .int (nI n))]) hx hb dX1_goThrough_101 hl (k := 8) rfl ((nI_succ _).symm) (by decide) rfl (fun ls hl => ?_)
          refine lv_goto (tgt := 16) hx hb dX1_goThrough_104 (by decide) ?_
          exact ih16 (k + 1) j false u ls (by omega) (by omega) (by rw [hz, zwk]) (lv_sub hl [3, 4, 5, 6, 7, 1, 8, 0] rfl)
  exact loop16 (n + 1) 0 n false 0 ls (by omega) (by omega) rfl (lv_sub hl [4, 5, 6, 7, 3, 2, 1, 0] rfl)
