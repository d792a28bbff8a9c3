/-! base: two forms of contract (a method that only reads; a method that writes), their starts and their calls -/
def zq_N (U : State) : Prop := va_Nw (.methodLinkNest RX1 18 yX3_isFunction RX3) U ∧ va_Nw (.methodLinkNest RX1 48 yX3_isWithinLimit RX3) U ∧ va_Nw (.methodLinkNest RX2 22 yX3_isFunction RX3) U ∧ va_Nw (.methodLinkNest RX2 26 yX3_isRun RX3) U ∧ va_AO RX2 U ∧ va_AO RX0 U
def zq_K (D : va_G) (cI cZ cW cC : ClassId) (U : State) : Prop := va_K D vwCl [(cI, .int), (cZ, .boolean), (cW, .object RX2), (cC, .object RX0)] U ∧ zq_N U
theorem zq_K_warm {D : va_G} {cI cZ cW cC : ClassId} {s U : State} (hW : s.WarmedH U.vm) (h : zq_K D cI cZ cW cC s) : zq_K D cI cZ cW cC U :=
  ⟨va_K.moved hW.alike h.1, va_Nw.warmM hW h.2.1, va_Nw.warmM hW h.2.2.1, va_Nw.warmM hW h.2.2.2.1, va_Nw.warmM hW h.2.2.2.2.1, h.2.2.2.2.2.1.moved hW.alike, h.2.2.2.2.2.2.moved hW.alike⟩
theorem zq_K_call {D : va_G} {cI cZ cW cC : ClassId} {U : State} {g : JFrame} {mk : MethodId} {a : Array Value} (h : zq_K D cI cZ cW cC U) : zq_K D cI cZ cW cC (U.calling g mk a) :=
  ⟨va_K.moved (u := U) (U := U.calling g mk a) (Vm.Alike.refl U.vm) h.1, va_Nw.same rfl rfl h.2.1, va_Nw.same rfl rfl h.2.2.1, va_Nw.same rfl rfl h.2.2.2.1, va_Nw.same rfl rfl h.2.2.2.2.1, va_AO.moved (u := U) (U := U.calling g mk a) (Vm.Alike.refl U.vm) h.2.2.2.2.2.1, va_AO.moved (u := U) (U := U.calling g mk a) (Vm.Alike.refl U.vm) h.2.2.2.2.2.2⟩
def zq_rP (D : va_G) (cI cZ cW cC : ClassId) (av : List Value) (ws : va_W) : Array Value → State → Prop := va_Pc av (fun U => va_P D vwCl ws U.heap ∧ zq_K D cI cZ cW cC U)
def zq_rQ (post : Option Value → Prop) : Array Value → State → Outcome → State → Prop := fun _ st oc t => ∃ v : Option Value, oc = .returned v ∧ post v ∧ t.heap = st.heap
def zq_ro (l : Launch) (D : va_G) (cI cZ cW cC : ClassId) (y : MethodName) (wsw : List Cond) (rm : Room) (av : List Value) (ws : va_W) (post : Option Value → Prop) : Prop := Met l y wsw rm (zq_rP D cI cZ cW cC av ws) (zq_rQ post) 0 0 (fun _ => False)
def zq_mP (D : va_G) (cI cZ cW cC : ClassId) (av : List Value) (ws : va_W) (sz : Nat) : Array Value → State → Prop := va_Pc av (fun U => U.heap.size = sz ∧ va_P D vwCl ws U.heap ∧ zq_K D cI cZ cW cC U ∧ va_D (fun _ => True) ws)
def zq_mQ (D : va_G) (ws : va_W) (sz : Nat) (post : Option Value → va_W → Prop) : Array Value → State → Outcome → State → Prop := fun _ st oc t => (∃ (v : Option Value) (w1 : va_W), oc = .returned v ∧ post v w1 ∧ va_P D vwCl w1 t.heap ∧ va_D (va_A ws sz) w1) ∧ va_F (va_A ws sz) st t
def zq_mu (l : Launch) (D : va_G) (cI cZ cW cC : ClassId) (y : MethodName) (wsw : List Cond) (rm : Room) (av : List Value) (ws : va_W) (sz : Nat) (post : Option Value → va_W → Prop) (mc ms : Nat) : Prop := Met l y wsw rm (zq_mP D cI cZ cW cC av ws sz) (zq_mQ D ws sz post) mc ms (va_A ws sz)
theorem zq_rP_blind {D : va_G} {cI cZ cW cC : ClassId} {av : List Value} {ws : va_W} : FrameBlind (zq_rP D cI cZ cW cC av ws) := fun _ _ _ _ q => ⟨q.1, q.2.1, zq_K_call q.2.2⟩
theorem zq_mP_blind {D : va_G} {cI cZ cW cC : ClassId} {av : List Value} {ws : va_W} {sz : Nat} : FrameBlind (zq_mP D cI cZ cW cC av ws sz) := fun _ _ _ _ q => ⟨q.1, q.2.1, q.2.2.1, zq_K_call q.2.2.2.1, q.2.2.2.2⟩
/-- what the body of a reading method gets -/
def zq_rB (l : Launch) (D : va_G) (cI cZ cW cC : ClassId) (wsw : List Cond) (rm : Room) (av : List Value) (ws : va_W) (cc : ByteArray) (maxL : Nat) (own : String) (ret : Program → Env → State → MethodId → List Frame → Method → Code → (State → Prop) → Prop) : Prop :=
  ∀ (p : Program) (e : Env) (s : State) (m : MethodId) (below : List Frame) (meth : Method) (c : Code) (Q : State → Prop) (ls : Array Slot), CallFix p m c cc maxL s av.toArray wsw own → va_P D vwCl ws s.heap → zq_K D cI cZ cW cC s → lv_has ls maxL (lv_args 0 av) → ret p e s m below meth c Q → W p l e rm s m av.toArray below meth c s.heap [] 0 0 Q (F0 m 0 ls [])
theorem zq_roI {l : Launch} {D : va_G} {cI cZ cW cC : ClassId} {y : MethodName} {wsw w' : List Cond} {rm : Room} {av : List Value} {ws : va_W} {post : Option Value → Prop} {cc : ByteArray} {maxL : Nat} {own : String} (hy : plainName y.cls = true) (hw : wsw = Cond.code y cc maxL (some .int) :: w') (ho : y.cls = own) (hlen : (lg_sl av).length ≤ maxL)
    (body : zq_rB l D cI cZ cW cC wsw rm av ws cc maxL own (fun p e s m below meth c Q => ∀ (v : Int32) (pc : Nat) (ls' : Array Slot), post (some (.int v)) → decode cc pc = .ok (.ireturn, 1) → W p l e rm s m av.toArray below meth c s.heap [] 0 0 Q (F0 m pc ls' [.int v]))) : zq_ro l D cI cZ cW cC y wsw rm av ws post := by
  refine Met.ofW (cc := cc) (maxL := maxL) (ret := some .int) hy hw ?_
  intro p e s m args below meth c s₁ B hml hv
  obtain ⟨rfl, hP, hK⟩ := hv
  rw [lg_entry_eq]
  exact body p e s m below meth c _ _ ⟨B.exec, B.bytes, hml, ho ▸ findClass_of_methodNamed B.named, atoms_spec (ws := wsw) B.pre⟩ hP hK (lv_entry av (n := maxL) hlen) (fun v pc ls' hp hd => W.iret B.exec B.bytes B.returns (fun t ht hW => ⟨_, rfl, hp, ht⟩) (fun q h => by cases h) hd B.notSynchronized)
theorem zq_roZ {l : Launch} {D : va_G} {cI cZ cW cC : ClassId} {y : MethodName} {wsw w' : List Cond} {rm : Room} {av : List Value} {ws : va_W} {post : Option Value → Prop} {cc : ByteArray} {maxL : Nat} {own : String} (hy : plainName y.cls = true) (hw : wsw = Cond.code y cc maxL (some .boolean) :: w') (ho : y.cls = own) (hlen : (lg_sl av).length ≤ maxL)
    (body : zq_rB l D cI cZ cW cC wsw rm av ws cc maxL own (fun p e s m below meth c Q => ∀ (v : Int32) (pc : Nat) (ls' : Array Slot), (v = 0 ∨ v = 1) → post (some (.int v)) → decode cc pc = .ok (.ireturn, 1) → W p l e rm s m av.toArray below meth c s.heap [] 0 0 Q (F0 m pc ls' [.int v]))) : zq_ro l D cI cZ cW cC y wsw rm av ws post := by
  refine Met.ofW (cc := cc) (maxL := maxL) (ret := some .boolean) hy hw ?_
  intro p e s m args below meth c s₁ B hml hv
  obtain ⟨rfl, hP, hK⟩ := hv
  rw [lg_entry_eq]
  exact body p e s m below meth c _ _ ⟨B.exec, B.bytes, hml, ho ▸ findClass_of_methodNamed B.named, atoms_spec (ws := wsw) B.pre⟩ hP hK (lv_entry av (n := maxL) hlen) (fun v pc ls' h01 hp hd => W.zret B.exec B.bytes B.returns (by rcases h01 with rfl | rfl <;> rfl) (fun t ht hW => ⟨_, rfl, hp, ht⟩) (fun q h => by cases h) hd B.notSynchronized)
theorem zq_roA {l : Launch} {D : va_G} {cI cZ cW cC : ClassId} {y : MethodName} {wsw w' : List Cond} {rm : Room} {av : List Value} {ws : va_W} {post : Option Value → Prop} {cc : ByteArray} {maxL : Nat} {own C : String} (hy : plainName y.cls = true) (hw : wsw = Cond.code y cc maxL (some (.object C)) :: w') (ho : y.cls = own) (hlen : (lg_sl av).length ≤ maxL)
    (body : zq_rB l D cI cZ cW cC wsw rm av ws cc maxL own (fun p e s m below meth c Q => ∀ (v : Option Nat) (pc : Nat) (ls' : Array Slot), post (some (va_rf v)) → decode cc pc = .ok (.areturn, 1) → W p l e rm s m av.toArray below meth c s.heap [] 0 0 Q (F0 m pc ls' [va_rf v]))) : zq_ro l D cI cZ cW cC y wsw rm av ws post := by
  refine Met.ofW (cc := cc) (maxL := maxL) (ret := some (.object C)) hy hw ?_
  intro p e s m args below meth c s₁ B hml hv
  obtain ⟨rfl, hP, hK⟩ := hv
  rw [lg_entry_eq]
  exact body p e s m below meth c _ _ ⟨B.exec, B.bytes, hml, ho ▸ findClass_of_methodNamed B.named, atoms_spec (ws := wsw) B.pre⟩ hP hK (lv_entry av (n := maxL) hlen) (fun v pc ls' hp hd => W.aret B.exec B.bytes B.returns (Or.inl ⟨_, rfl⟩) (va_rf_or v) (fun t ht hW => ⟨_, rfl, hp, ht⟩) (fun q h => by cases h) hd B.notSynchronized)
/-- what the body of a writing method gets -/
def zq_mB (l : Launch) (D : va_G) (cI cZ cW cC : ClassId) (wsw : List Cond) (rm : Room) (av : List Value) (ws : va_W) (sz : Nat) (cc : ByteArray) (maxL : Nat) (own nm : String) (ret : Program → Env → State → MethodId → List Frame → Method → Code → (State → Prop) → (Nat → Prop) → Prop) : Prop :=
  ∀ (p : Program) (e : Env) (s : State) (m : MethodId) (below : List Frame) (meth : Method) (c : Code) (Q : State → Prop) (A : Nat → Prop) (ls : Array Slot), s.heap.size = sz → CallFix p m c cc maxL s av.toArray wsw own → meth.name = nm → (∀ q : Nat, s.heap.size ≤ q → A q) → va_P D vwCl ws s.heap → zq_K D cI cZ cW cC s → va_D A ws → va_S A s.heap s.heap [] → lv_has ls maxL (lv_args 0 av) → ret p e s m below meth c Q A → W p l e rm s m av.toArray below meth c s.heap [] 0 0 Q (F0 m 0 ls [])
theorem zq_muI {l : Launch} {D : va_G} {cI cZ cW cC : ClassId} {y : MethodName} {wsw w' : List Cond} {rm : Room} {av : List Value} {ws : va_W} {sz : Nat} {post : Option Value → va_W → Prop} {mc ms : Nat} {cc : ByteArray} {maxL : Nat} {own : String} (hy : plainName y.cls = true) (hw : wsw = Cond.code y cc maxL (some .int) :: w') (ho : y.cls = own) (hlen : (lg_sl av).length ≤ maxL)
    (body : zq_mB l D cI cZ cW cC wsw rm av ws sz cc maxL own y.name (fun p e s m below meth c Q A => ∀ (v : Int32) (pc : Nat) (ls' : Array Slot) (w1 : va_W) (H1 : Heap) (locs1 : List Loc), post (some (.int v)) w1 → va_P D vwCl w1 H1 → va_D A w1 → va_S A s.heap H1 locs1 → decode cc pc = .ok (.ireturn, 1) → W p l e rm s m av.toArray below meth c H1 locs1 mc ms Q (F0 m pc ls' [.int v]))) : zq_mu l D cI cZ cW cC y wsw rm av ws sz post mc ms := by
  refine Met.ofW (cc := cc) (maxL := maxL) (ret := some .int) hy hw ?_
  intro p e s m args below meth c s₁ B hml hv
  obtain ⟨rfl, hsz, hP, hK, hD⟩ := hv
  rw [lg_entry_eq]
  exact body p e s m below meth c _ (va_A ws sz) _ hsz ⟨B.exec, B.bytes, hml, ho ▸ findClass_of_methodNamed B.named, atoms_spec (ws := wsw) B.pre⟩ (name_of_methodNamed B.named B.method).1 (fun q h => Or.inr (hsz ▸ h)) hP hK hD.self va_S.rf (lv_entry av (n := maxL) hlen) (fun v pc ls' w1 H1 locs1 hp hP1 hD1 hS1 hd => W.iret B.exec B.bytes B.returns (fun t ht hW => ⟨⟨_, w1, rfl, hp, by rw [ht]; exact hP1, hD1⟩, hS1.F ht⟩) hS1.2.2 hd B.notSynchronized)
theorem zq_muZ {l : Launch} {D : va_G} {cI cZ cW cC : ClassId} {y : MethodName} {wsw w' : List Cond} {rm : Room} {av : List Value} {ws : va_W} {sz : Nat} {post : Option Value → va_W → Prop} {mc ms : Nat} {cc : ByteArray} {maxL : Nat} {own : String} (hy : plainName y.cls = true) (hw : wsw = Cond.code y cc maxL (some .boolean) :: w') (ho : y.cls = own) (hlen : (lg_sl av).length ≤ maxL)
    (body : zq_mB l D cI cZ cW cC wsw rm av ws sz cc maxL own y.name (fun p e s m below meth c Q A => ∀ (v : Int32) (pc : Nat) (ls' : Array Slot) (w1 : va_W) (H1 : Heap) (locs1 : List Loc), (v = 0 ∨ v = 1) → post (some (.int v)) w1 → va_P D vwCl w1 H1 → va_D A w1 → va_S A s.heap H1 locs1 → decode cc pc = .ok (.ireturn, 1) → W p l e rm s m av.toArray below meth c H1 locs1 mc ms Q (F0 m pc ls' [.int v]))) : zq_mu l D cI cZ cW cC y wsw rm av ws sz post mc ms := by
  refine Met.ofW (cc := cc) (maxL := maxL) (ret := some .boolean) hy hw ?_
  intro p e s m args below meth c s₁ B hml hv
  obtain ⟨rfl, hsz, hP, hK, hD⟩ := hv
  rw [lg_entry_eq]
  exact body p e s m below meth c _ (va_A ws sz) _ hsz ⟨B.exec, B.bytes, hml, ho ▸ findClass_of_methodNamed B.named, atoms_spec (ws := wsw) B.pre⟩ (name_of_methodNamed B.named B.method).1 (fun q h => Or.inr (hsz ▸ h)) hP hK hD.self va_S.rf (lv_entry av (n := maxL) hlen) (fun v pc ls' w1 H1 locs1 h01 hp hP1 hD1 hS1 hd => W.zret B.exec B.bytes B.returns (by rcases h01 with rfl | rfl <;> rfl) (fun t ht hW => ⟨⟨_, w1, rfl, hp, by rw [ht]; exact hP1, hD1⟩, hS1.F ht⟩) hS1.2.2 hd B.notSynchronized)
theorem zq_muV {l : Launch} {D : va_G} {cI cZ cW cC : ClassId} {y : MethodName} {wsw w' : List Cond} {rm : Room} {av : List Value} {ws : va_W} {sz : Nat} {post : Option Value → va_W → Prop} {mc ms : Nat} {cc : ByteArray} {maxL : Nat} {own : String} (hy : plainName y.cls = true) (hw : wsw = Cond.code y cc maxL none :: w') (ho : y.cls = own) (hlen : (lg_sl av).length ≤ maxL)
    (body : zq_mB l D cI cZ cW cC wsw rm av ws sz cc maxL own y.name (fun p e s m below meth c Q A => ∀ (pc : Nat) (ls' : Array Slot) (w1 : va_W) (H1 : Heap) (locs1 : List Loc), post none w1 → va_P D vwCl w1 H1 → va_D A w1 → va_S A s.heap H1 locs1 → decode cc pc = .ok (.return_, 1) → W p l e rm s m av.toArray below meth c H1 locs1 mc ms Q (F0 m pc ls' []))) : zq_mu l D cI cZ cW cC y wsw rm av ws sz post mc ms := by
  refine Met.ofW (cc := cc) (maxL := maxL) (ret := none) hy hw ?_
  intro p e s m args below meth c s₁ B hml hv
  obtain ⟨rfl, hsz, hP, hK, hD⟩ := hv
  rw [lg_entry_eq]
  exact body p e s m below meth c _ (va_A ws sz) _ hsz ⟨B.exec, B.bytes, hml, ho ▸ findClass_of_methodNamed B.named, atoms_spec (ws := wsw) B.pre⟩ (name_of_methodNamed B.named B.method).1 (fun q h => Or.inr (hsz ▸ h)) hP hK hD.self va_S.rf (lv_entry av (n := maxL) hlen) (fun pc ls' w1 H1 locs1 hp hP1 hD1 hS1 hd => W.vret B.exec B.bytes B.returns (fun t ht hW => ⟨⟨_, w1, rfl, hp, by rw [ht]; exact hP1, hD1⟩, hS1.F ht⟩) hS1.2.2 hd B.notSynchronized)
theorem zq_muA {l : Launch} {D : va_G} {cI cZ cW cC : ClassId} {y : MethodName} {wsw w' : List Cond} {rm : Room} {av : List Value} {ws : va_W} {sz : Nat} {post : Option Value → va_W → Prop} {mc ms : Nat} {cc : ByteArray} {maxL : Nat} {own C : String} (hy : plainName y.cls = true) (hw : wsw = Cond.code y cc maxL (some (.object C)) :: w') (ho : y.cls = own) (hlen : (lg_sl av).length ≤ maxL)
    (body : zq_mB l D cI cZ cW cC wsw rm av ws sz cc maxL own y.name (fun p e s m below meth c Q A => ∀ (v : Nat) (pc : Nat) (ls' : Array Slot) (w1 : va_W) (H1 : Heap) (locs1 : List Loc), post (some (.ref v)) w1 → va_P D vwCl w1 H1 → va_D A w1 → va_S A s.heap H1 locs1 → decode cc pc = .ok (.areturn, 1) → W p l e rm s m av.toArray below meth c H1 locs1 mc ms Q (F0 m pc ls' [.ref v]))) : zq_mu l D cI cZ cW cC y wsw rm av ws sz post mc ms := by
  refine Met.ofW (cc := cc) (maxL := maxL) (ret := some (.object C)) hy hw ?_
  intro p e s m args below meth c s₁ B hml hv
  obtain ⟨rfl, hsz, hP, hK, hD⟩ := hv
  rw [lg_entry_eq]
  exact body p e s m below meth c _ (va_A ws sz) _ hsz ⟨B.exec, B.bytes, hml, ho ▸ findClass_of_methodNamed B.named, atoms_spec (ws := wsw) B.pre⟩ (name_of_methodNamed B.named B.method).1 (fun q h => Or.inr (hsz ▸ h)) hP hK hD.self va_S.rf (lv_entry av (n := maxL) hlen) (fun v pc ls' w1 H1 locs1 hp hP1 hD1 hS1 hd => W.aret B.exec B.bytes B.returns (Or.inl ⟨_, rfl⟩) (Or.inr ⟨_, rfl⟩) (fun t ht hW => ⟨⟨_, w1, rfl, hp, by rw [ht]; exact hP1, hD1⟩, hS1.F ht⟩) hS1.2.2 hd B.notSynchronized)
section
variable {p : Program} {l : Launch} {e : Env} {R : Room} {s : State} {m : MethodId} {args : Array Value} {below : List Frame} {meth : Method} {c : Code} {H H0 : Heap} {locs : List Loc} {cells slots : Nat} {Q : State → Prop} {D : va_G} {cI cZ cW cC : ClassId} {A : Nat → Prop}
variable {y : MethodName} {bytes cc : ByteArray} {maxL nL mc ms n index sz : Nat} {ret : Option FieldType} {wsw Ts : List Cond} {rm : Room} {own C host : String} {b : Addr} {As rest st0 : List Value} {pc : Nat} {ls : Array Slot} {ws wc X pl cx wr : va_W} {post : Option Value → Prop} {postM : Option Value → va_W → Prop} {q : vw_C} {fs : List Value} {ci q0 : Nat}
theorem zq_ro_go (hr : va_Run p l e R s m args below meth c H locs cells slots 0 0 (F0 m pc ls st0) rest (zq_rQ post As.toArray) (fun _ => False))
    (kk : ∀ v : Option Value, post v → W p l e R s m args below meth c H locs cells slots Q (F0 m (pc + 3) ls (v.toList ++ rest))) : W p l e R s m args below meth c H locs cells slots Q (F0 m pc ls st0) := by
  intro T hT X
  obtain ⟨v, st₀, t, T', L, h0, X', hL, e1, -, ⟨v', hv, hp, hh⟩, st⟩ := hr T hT X
  cases hv
  obtain ⟨t2, a1, b1⟩ := kk v hp T' (by rw [e1, hh, h0]) (Stand.forget X' (fun q h => (hL q h).elim))
  exact ⟨t2, st t2 a1, b1⟩
theorem zq_mu_go (hr : va_Run p l e R s m args below meth c H locs cells slots mc ms (F0 m pc ls st0) rest (zq_mQ D wc H.size postM As.toArray) (va_A wc H.size)) (hS : va_S A H0 H locs) (hF : ∀ q, va_A wc H.size q → A q)
    (kk : ∀ (v : Option Value) (w1 : va_W) (H1 : Heap) (locs1 : List Loc), postM v w1 → va_P D vwCl w1 H1 → va_D (va_A wc H.size) w1 → (∀ q : Nat, q < H.size → ¬ va_A wc H.size q → H1[q]? = H[q]?) → va_S A H0 H1 locs1 → W p l e R s m args below meth c H1 locs1 (cells + mc) (slots + ms) Q (F0 m (pc + 3) ls (v.toList ++ rest))) : W p l e R s m args below meth c H locs cells slots Q (F0 m pc ls st0) := by
  intro T hT X
  obtain ⟨v, st₀, t, T', L, h0, X', hL, e1, -, ⟨⟨v', w1, hv, hp, hP1, hD1⟩, hz, hk⟩, st⟩ := hr T hT X
  cases hv
  rw [h0] at hz hk
  obtain ⟨t2, a1, b1⟩ := kk v w1 T'.heap (locs ++ L) hp (by rw [e1]; exact hP1) hD1 (fun q h1 h2 => by rw [e1]; exact hk q h1 h2)
    ⟨Nat.le_trans hS.1 (by rw [e1]; exact hz), fun q h1 h2 => by rw [e1, hk q (Nat.lt_of_lt_of_le h1 hS.1) (fun z => h2 (hF q z))]; exact hS.2.1 q h1 h2, fun q hq => by
      rcases List.mem_append.mp hq with h | h
      · exact hS.2.2 q h
      · exact hF _ (hL q h)⟩ T' rfl X'
  exact ⟨t2, st t2 a1, b1⟩
/-- a reading call: of an object, of a static method, of a nest mate's static method -/
theorem zq_cV (S : CallFix p m c cc nL s args Ts own) (hM : zq_ro l D cI cZ cW cC y wsw rm (.ref b :: As) wc post) (cw : CallW R s args own C index y bytes maxL ret wsw rm 0 0 n) (hK : zq_K D cI cZ cW cC s) (hP : va_P D vwCl wc H) (ci q0 : Nat) {T : u_T} {N : Nat} (hc : vwCl[ci]? = some (C, T, N)) {fs : List Value} (he : wc[q0]? = some (b, .inr (ci, fs)))
    (hn : As.length = n) (hsz : ls.size = nL) (hst : st0 = As.reverse ++ .ref b :: rest) (h8 : (rest.map fun v => v.category).sum ≤ 8) (hdg : decode cc pc = .ok (.invokevirtual index, 3)) (hf : cells ≤ R.cells ∧ slots ≤ R.slots)
    (kk : ∀ v : Option Value, post v → W p l e R s m args below meth c H locs cells slots Q (F0 m (pc + 3) ls (v.toList ++ rest))) : W p l e R s m args below meth c H locs cells slots Q (F0 m pc ls st0) :=
  zq_ro_go (As := .ref b :: As) (va_runV (As := As) S hM cw ⟨zq_rP_blind, va_recv hK.1 hP hc he, fun U hU hW => ⟨rfl, by rw [hU]; exact hP, zq_K_warm hW hK⟩⟩ rfl hn hsz hst (lv_room h8) hdg hf) kk
theorem zq_cS (S : CallFix p m c cc nL s args Ts own) (hM : zq_ro l D cI cZ cW cC y wsw rm As wc post) (cw : CallB R s args own index y bytes maxL ret wsw rm 0 0 n ∧ (Cond.static y).before args s = true) (hK : zq_K D cI cZ cW cC s) (hP : va_P D vwCl wc H)
    (hn : As.length = n) (hsz : ls.size = nL) (hst : st0 = As.reverse ++ rest) (h8 : (rest.map fun v => v.category).sum ≤ 8) (hdg : decode cc pc = .ok (.invokestatic index, 3)) (hf : cells ≤ R.cells ∧ slots ≤ R.slots)
    (kk : ∀ v : Option Value, post v → W p l e R s m args below meth c H locs cells slots Q (F0 m (pc + 3) ls (v.toList ++ rest))) : W p l e R s m args below meth c H locs cells slots Q (F0 m pc ls st0) :=
  zq_ro_go (As := As) (va_runS (As := As) S hM cw ⟨zq_rP_blind, fun U hU hW => ⟨rfl, by rw [hU]; exact hP, zq_K_warm hW hK⟩⟩ rfl hn hsz hst (lv_room h8) hdg hf) kk
theorem zq_cN (S : CallFix p m c cc nL s args Ts own) (hM : zq_ro l D cI cZ cW cC y wsw rm As wc post) (cw : va_CN R s args own index y host bytes maxL ret wsw rm 0 0 n ∧ (Cond.static y).before args s = true ∧ True) (hK : zq_K D cI cZ cW cC s) (hP : va_P D vwCl wc H)
    (hn : As.length = n) (hsz : ls.size = nL) (hst : st0 = As.reverse ++ rest) (h8 : (rest.map fun v => v.category).sum ≤ 8) (hdg : decode cc pc = .ok (.invokestatic index, 3)) (hf : cells ≤ R.cells ∧ slots ≤ R.slots)
    (kk : ∀ v : Option Value, post v → W p l e R s m args below meth c H locs cells slots Q (F0 m (pc + 3) ls (v.toList ++ rest))) : W p l e R s m args below meth c H locs cells slots Q (F0 m pc ls st0) :=
  zq_ro_go (As := As) (va_runSN (As := As) S hM cw ⟨zq_rP_blind, fun U hU hW => ⟨rfl, by rw [hU]; exact hP, zq_K_warm hW hK⟩⟩ rfl hn hsz hst (lv_room h8) hdg hf) kk
/-- a writing call that has the caller's whole world -/
theorem zq_cM (S : CallFix p m c cc nL s args Ts own) (hM : zq_mu l D cI cZ cW cC y wsw rm (.ref b :: As) ws H.size postM mc ms) (cw : CallW R s args own C index y bytes maxL ret wsw rm mc ms n) (hK : zq_K D cI cZ cW cC s) (hP : va_P D vwCl ws H) (hD : va_D A ws) (hS : va_S A H0 H locs) (hA : ∀ q : Nat, H0.size ≤ q → A q) (ci q0 : Nat) {T : u_T} {N : Nat} (hc : vwCl[ci]? = some (C, T, N)) {fs : List Value} (he : ws[q0]? = some (b, .inr (ci, fs)))
    (hn : As.length = n) (hsz : ls.size = nL) (hst : st0 = As.reverse ++ .ref b :: rest) (h8 : (rest.map fun v => v.category).sum ≤ 8) (hdg : decode cc pc = .ok (.invokevirtual index, 3)) (hf : cells + mc ≤ R.cells ∧ slots + ms ≤ R.slots)
    (kk : ∀ (v : Option Value) (w1 : va_W) (H1 : Heap) (locs1 : List Loc), postM v w1 → va_P D vwCl w1 H1 → va_D A w1 → va_S A H0 H1 locs1 → W p l e R s m args below meth c H1 locs1 (cells + mc) (slots + ms) Q (F0 m (pc + 3) ls (v.toList ++ rest))) : W p l e R s m args below meth c H locs cells slots Q (F0 m pc ls st0) := by
  have hF : ∀ q, va_A ws H.size q → A q := fun q h => by
    rcases h with ⟨k, e, h⟩ | h
    · exact hD.2 k (q, e) h
    · exact hA q (Nat.le_trans hS.1 h)
  exact zq_mu_go (As := .ref b :: As) (va_runV (As := As) S hM cw ⟨zq_mP_blind, va_recv hK.1 hP hc he, fun U hU hW => ⟨rfl, by rw [hU], by rw [hU]; exact hP, zq_K_warm hW hK, hD.weaken (fun _ _ _ _ => trivial)⟩⟩ rfl hn hsz hst (lv_room h8) hdg hf) hS hF (fun v w1 H1 locs1 hp hP1 hD1 _ hS1 => kk v w1 H1 locs1 hp hP1 (hD1.weaken (fun _ q _ h => hF q.1 h)) hS1)
/-- a writing call that has some cells of the caller's world -/
theorem zq_cQ (S : CallFix p m c cc nL s args Ts own) (hM : zq_mu l D cI cZ cW cC y wsw rm (.ref b :: As) cx H.size postM mc ms) (cw : CallW R s args own C index y bytes maxL ret wsw rm mc ms n) (hK : zq_K D cI cZ cW cC s) (hP : va_P D vwCl (X ++ pl) H) (hD : va_D A (X ++ pl)) (hS : va_S A H0 H locs) (hA : ∀ q : Nat, H0.size ≤ q → A q) (isC isR : List Nat) (hC : isC.map (fun i => X[i]?) = cx.map some) (hCn : va_nd isC = true) (hR : isR.map (fun i => X[i]?) = wr.map some) (hnd : va_nd isR = true) (hdis : ∀ i ∈ isR, i ∉ isC) (ci q0 : Nat) {T : u_T} {N : Nat} (hc : vwCl[ci]? = some (C, T, N)) {fs : List Value} (he : cx[q0]? = some (b, .inr (ci, fs)))
    (hn : As.length = n) (hsz : ls.size = nL) (hst : st0 = As.reverse ++ .ref b :: rest) (h8 : (rest.map fun v => v.category).sum ≤ 8) (hdg : decode cc pc = .ok (.invokevirtual index, 3)) (hf : cells + mc ≤ R.cells ∧ slots + ms ≤ R.slots)
    (kk : ∀ (v : Option Value) (w1 : va_W) (H1 : Heap) (locs1 : List Loc), postM v w1 → va_P D vwCl ((wr ++ w1) ++ pl) H1 → va_D A ((wr ++ w1) ++ pl) → va_S A H0 H1 locs1 → W p l e R s m args below meth c H1 locs1 (cells + mc) (slots + ms) Q (F0 m (pc + 3) ls (v.toList ++ rest))) : W p l e R s m args below meth c H locs cells slots Q (F0 m pc ls st0) := by
  have hin : ∀ (k : Nat) (q : Nat × va_E), cx[k]? = some q → ∃ i, isC[k]? = some i ∧ (X ++ pl)[i]? = some q := fun k q hq => by
    obtain ⟨i, h1, h2⟩ := va_in_of isC hC hq
    exact ⟨i, h1, by rw [List.getElem?_append_left (List.getElem?_eq_some_iff.mp h2).1]; exact h2⟩
  have hPc : va_P D vwCl cx H := fun k q hq => by
    obtain ⟨i, -, h⟩ := hin k q hq
    exact hP i q h
  have hDc : va_D A cx := ⟨fun i j a b ha hb hab => by
      obtain ⟨i1, g1, h1⟩ := hin i a ha
      obtain ⟨j1, g2, h2⟩ := hin j b hb
      have e1 := hD.1 i1 j1 a b h1 h2 hab
      subst e1
      exact va_nd_inj isC hCn i j i1 g1 g2, fun k q hq => by
      obtain ⟨i, -, h⟩ := hin k q hq
      exact hD.2 i q h⟩
  have hF : ∀ q, va_A cx H.size q → A q := fun q h => by
    rcases h with ⟨k, e, h⟩ | h
    · exact hDc.2 k (q, e) h
    · exact hA q (Nat.le_trans hS.1 h)
  exact zq_mu_go (As := .ref b :: As) (va_runV (As := As) S hM cw ⟨zq_mP_blind, va_recv hK.1 hPc hc he, fun U hU hW => ⟨rfl, by rw [hU], by rw [hU]; exact hPc, zq_K_warm hW hK, hDc.weaken (fun _ _ _ _ => trivial)⟩⟩ rfl hn hsz hst (lv_room h8) hdg hf) hS hF (fun v w1 H1 locs1 hp hP1 hD1 hk1 hS1 => by
    obtain ⟨hP2, hD2⟩ := va_joinQ (w1 := w1) hP hD isC isR hC hR hnd hdis hk1 hF hP1 hD1
    exact kk v w1 H1 locs1 hp hP2 hD2 hS1)
/-- a constructor's call -/
theorem zq_cI (S : CallFix p m c cc nL s args Ts own) (hM : zq_mu l D cI cZ cW cC y wsw rm (.ref b :: As) cx H.size postM mc ms) (cw : CallB R s args own index y bytes maxL none wsw rm mc ms n ∧ y.name = "<init>" ∧ (Cond.instanceMethod y).before args s = true) (hK : zq_K D cI cZ cW cC s) (hP : va_P D vwCl (X ++ pl) H) (hD : va_D A (X ++ pl)) (hS : va_S A H0 H locs) (hA : ∀ q : Nat, H0.size ≤ q → A q) (isC isR : List Nat) (hC : isC.map (fun i => X[i]?) = cx.map some) (hCn : va_nd isC = true) (hR : isR.map (fun i => X[i]?) = wr.map some) (hnd : va_nd isR = true) (hdis : ∀ i ∈ isR, i ∉ isC)
    (hn : As.length = n) (hsz : ls.size = nL) (hst : st0 = As.reverse ++ .ref b :: rest) (h8 : (rest.map fun v => v.category).sum ≤ 8) (hdg : decode cc pc = .ok (.invokespecial index, 3)) (hf : cells + mc ≤ R.cells ∧ slots + ms ≤ R.slots)
    (kk : ∀ (v : Option Value) (w1 : va_W) (H1 : Heap) (locs1 : List Loc), postM v w1 → va_P D vwCl ((wr ++ w1) ++ pl) H1 → va_D A ((wr ++ w1) ++ pl) → va_S A H0 H1 locs1 → W p l e R s m args below meth c H1 locs1 (cells + mc) (slots + ms) Q (F0 m (pc + 3) ls (v.toList ++ rest))) : W p l e R s m args below meth c H locs cells slots Q (F0 m pc ls st0) := by
  have hin : ∀ (k : Nat) (q : Nat × va_E), cx[k]? = some q → ∃ i, isC[k]? = some i ∧ (X ++ pl)[i]? = some q := fun k q hq => by
    obtain ⟨i, h1, h2⟩ := va_in_of isC hC hq
    exact ⟨i, h1, by rw [List.getElem?_append_left (List.getElem?_eq_some_iff.mp h2).1]; exact h2⟩
  have hPc : va_P D vwCl cx H := fun k q hq => by
    obtain ⟨i, -, h⟩ := hin k q hq
    exact hP i q h
  have hDc : va_D A cx := ⟨fun i j a b ha hb hab => by
      obtain ⟨i1, g1, h1⟩ := hin i a ha
      obtain ⟨j1, g2, h2⟩ := hin j b hb
      have e1 := hD.1 i1 j1 a b h1 h2 hab
      subst e1
      exact va_nd_inj isC hCn i j i1 g1 g2, fun k q hq => by
      obtain ⟨i, -, h⟩ := hin k q hq
      exact hD.2 i q h⟩
  have hF : ∀ q, va_A cx H.size q → A q := fun q h => by
    rcases h with ⟨k, e, h⟩ | h
    · exact hDc.2 k (q, e) h
    · exact hA q (Nat.le_trans hS.1 h)
  exact zq_mu_go (As := .ref b :: As) (va_runI (As := As) S hM cw ⟨zq_mP_blind, fun U hU hW => ⟨rfl, by rw [hU], by rw [hU]; exact hPc, zq_K_warm hW hK, hDc.weaken (fun _ _ _ _ => trivial)⟩⟩ rfl hn hsz hst (lv_room h8) hdg hf) hS hF (fun v w1 H1 locs1 hp hP1 hD1 hk1 hS1 => by
    obtain ⟨hP2, hD2⟩ := va_joinQ (w1 := w1) hP hD isC isR hC hR hnd hdis hk1 hF hP1 hD1
    exact kk v w1 H1 locs1 hp hP2 hD2 hS1)
end
