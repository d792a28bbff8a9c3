/-! WordsBeside: keep, claim, new -/
theorem zD_ap {A : Nat → Prop} {Y Z : va_W} (hD : va_D A (Y ++ Z)) {a b : Nat × va_E} (ha : a ∈ Y) (hb : b ∈ Z) : a.1 ≠ b.1 := fun h => by
  obtain ⟨i, hi⟩ := List.getElem?_of_mem ha
  obtain ⟨j, hj⟩ := List.getElem?_of_mem hb
  have hl := (List.getElem?_eq_some_iff.mp hi).1
  have e := hD.1 i (Y.length + j) a b (by rw [List.getElem?_append_left hl]; exact hi) (by rw [List.getElem?_append_right (by omega), show Y.length + j - Y.length = j by omega]; exact hj) h
  omega
theorem zpl_mem {PL : List Nat} {pf : Nat → va_E} {a : Nat} (h : a ∈ PL) : (a, pf a) ∈ va_pl PL pf := List.mem_map.mpr ⟨a, h, rfl⟩
theorem zpl_push1 {D : va_G} {cl : List vw_C} {A : Nat → Prop} {X : va_W} {PL : List Nat} {pf : Nat → va_E} {a : Nat} {ea : va_E} {H : Heap} (hP : va_P D cl ((X ++ [(a, ea)]) ++ va_pl PL pf) H) (hD : va_D A ((X ++ [(a, ea)]) ++ va_pl PL pf)) :
    a ∉ PL ∧ va_P D cl (X ++ va_pl (PL ++ [a]) (va_up pf a ea)) H ∧ va_D A (X ++ va_pl (PL ++ [a]) (va_up pf a ea)) := by
  have h1 : a ∉ PL := fun q => zD_ap hD (a := (a, ea)) (by simp) (zpl_mem q) rfl
  refine ⟨h1, ?_, ?_⟩
  · rw [← va_pl_push h1, ← List.append_assoc]; exact hP.swap
  · rw [← va_pl_push h1, ← List.append_assoc]; exact hD.swap
theorem zpl_push2 {D : va_G} {cl : List vw_C} {A : Nat → Prop} {X : va_W} {PL : List Nat} {pf : Nat → va_E} {a b : Nat} {ea eb : va_E} {H : Heap} (hP : va_P D cl ((X ++ [(a, ea), (b, eb)]) ++ va_pl PL pf) H) (hD : va_D A ((X ++ [(a, ea), (b, eb)]) ++ va_pl PL pf)) :
    a ∉ PL ∧ b ∉ PL ∧ a ≠ b ∧ va_P D cl (X ++ va_pl (PL ++ [a, b]) (va_up (va_up pf a ea) b eb)) H ∧ va_D A (X ++ va_pl (PL ++ [a, b]) (va_up (va_up pf a ea) b eb)) := by
  have h1 : a ∉ PL := fun q => zD_ap hD (a := (a, ea)) (by simp) (zpl_mem q) rfl
  have h2 : b ∉ PL := fun q => zD_ap hD (a := (b, eb)) (by simp) (zpl_mem q) rfl
  have h3 : a ≠ b := fun q => by
    have hD2 : va_D A ((X ++ [(a, ea)]) ++ ((b, eb) :: va_pl PL pf)) := by
      have e : (X ++ [(a, ea)]) ++ ((b, eb) :: va_pl PL pf) = (X ++ [(a, ea), (b, eb)]) ++ va_pl PL pf := by simp
      rw [e]; exact hD
    exact zD_ap hD2 (a := (a, ea)) (b := (b, eb)) (by simp) (by simp) q
  have h4 : b ∉ PL ++ [a] := fun q => by
    rcases List.mem_append.mp q with z | z
    · exact h2 z
    · exact h3 (List.mem_singleton.mp z).symm
  have e : X ++ va_pl (PL ++ [a, b]) (va_up (va_up pf a ea) b eb) = (X ++ va_pl PL pf) ++ [(a, ea), (b, eb)] := by
    rw [show PL ++ [a, b] = (PL ++ [a]) ++ [b] by simp, ← va_pl_push h4, ← va_pl_push h1]
    simp
  refine ⟨h1, h2, h3, ?_, ?_⟩
  · rw [e]; exact hP.swap
  · rw [e]; exact hD.swap
theorem zPW_mono {cI : ClassId} {PL PL2 : List Nat} {pf pf2 : Nat → va_E} {fs : Nat → Option Nat} {wo go : Nat → Nat} {Gs : Nat → Nat → Int32} {k : Nat} (HW : zPW cI PL pf fs wo go Gs k) (h : ∀ a, a ∈ PL → a ∈ PL2 ∧ pf2 a = pf a) : zPW cI PL2 pf2 fs wo go Gs k := fun t ht => by
  obtain ⟨b1, b2, b3, b4, b5⟩ := HW t ht
  exact ⟨b1, (h _ b2).1, by rw [(h _ b2).2]; exact b3, (h _ b4).1, by rw [(h _ b4).2]; exact b5⟩
theorem zPC_mono {PL PL2 : List Nat} {pf pf2 : Nat → va_E} {fc : Nat → Option Nat} {co fo bo : Nat → Nat} {kF fF sF lh mF : Nat → Int32} {n : Nat} (HC : zPC PL pf fc co fo bo kF fF sF lh mF n) (h : ∀ a, a ∈ PL → a ∈ PL2 ∧ pf2 a = pf a) : zPC PL2 pf2 fc co fo bo kF fF sF lh mF n := ⟨fun i hi => by
  obtain ⟨b1, b2, b3⟩ := HC.1 i hi
  exact ⟨b1, (h _ b2).1, by rw [(h _ b2).2]; exact b3⟩, HC.2⟩
theorem zPW_add {cI : ClassId} {PL : List Nat} {pf : Nat → va_E} {fs : Nat → Option Nat} {wo go : Nat → Nat} {Gs : Nat → Nat → Int32} {k w g : Nat} {G : Nat → Int32} (HW : zPW cI PL pf fs wo go Gs k) (hw : w ∈ PL) (ew : pf w = .inr (2, [.ref g])) (hg : g ∈ PL) (eg : pf g = .inl (cI, 1536, .inl G)) : zPW cI PL pf (va_up fs (k + 1) (some w)) (va_up wo (k + 1) w) (va_up go (k + 1) g) (va_up Gs (k + 1) G) (k + 1) := fun t ht => by
  by_cases e : t = k + 1
  · subst e
    rw [va_up_self, va_up_self, va_up_self, va_up_self]
    exact ⟨rfl, hw, ew, hg, eg⟩
  · rw [va_up_ne _ _ e, va_up_ne _ _ e, va_up_ne _ _ e, va_up_ne _ _ e]
    exact HW t (by omega)
theorem zPC_add {PL : List Nat} {pf : Nat → va_E} {fc : Nat → Option Nat} {co fo bo : Nat → Nat} {kF fF sF lh mF : Nat → Int32} {n a f b : Nat} {kd p1 q1 l1 m1 : Int32} (HC : zPC PL pf fc co fo bo kF fF sF lh mF n) (ha : a ∈ PL) (hne : ∀ i, i < n → co i ≠ a) (ea : pf a = .inr (0, [.int (nI f), .int kd, .int p1, .int q1, .int (nI b), .int l1, .int m1])) :
    zPC PL pf (va_up fc n (some a)) (va_up co n a) (va_up fo n f) (va_up bo n b) (upd kF n kd) (upd fF n p1) (upd sF n q1) (upd lh n l1) (upd mF n m1) (n + 1) := by
  refine ⟨fun i hi => ?_, fun i j hi hj h => ?_⟩
  · by_cases e : i = n
    · subst e
      simp only [va_up_self, pk_us]
      exact ⟨trivial, ha, ea⟩
    · rw [va_up_ne _ _ e, va_up_ne _ _ e, va_up_ne _ _ e, va_up_ne _ _ e, pk_un e, pk_un e, pk_un e, pk_un e, pk_un e]
      exact HC.1 i (by omega)
  · by_cases e : i = n <;> by_cases e2 : j = n
    · omega
    · subst e
      rw [va_up_self, va_up_ne _ _ e2] at h
      exact absurd h.symm (hne j (by omega))
    · subst e2
      rw [va_up_self, va_up_ne _ _ e] at h
      exact absurd h (hne i (by omega))
    · rw [va_up_ne _ _ e, va_up_ne _ _ e2] at h
      exact HC.2 i j (by omega) (by omega) h
theorem zq_reP {D : va_G} {cl : List vw_C} {A : Nat → Prop} {X cx pl : va_W} {H : Heap} (isC : List Nat) (hC : isC.map (fun i => X[i]?) = cx.map some) (hCn : va_nd isC = true) (hP : va_P D cl (X ++ pl) H) (hD : va_D A (X ++ pl)) : va_P D cl (cx ++ pl) H ∧ va_D A (cx ++ pl) := by
  have hin : ∀ (k : Nat) (q : Nat × va_E), cx[k]? = some q → ∃ i, isC[k]? = some i ∧ X[i]? = some q := fun k q hq => va_in_of isC hC hq
  refine ⟨fun k q hq => ?_, fun i j a b ha hb hab => ?_, fun k q hq => ?_⟩
  · by_cases h : k < cx.length
    · rw [List.getElem?_append_left h] at hq
      obtain ⟨i, -, h2⟩ := hin k q hq
      exact hP i q (by rw [List.getElem?_append_left (List.getElem?_eq_some_iff.mp h2).1]; exact h2)
    · rw [List.getElem?_append_right (by omega)] at hq
      exact hP (X.length + (k - cx.length)) q (by rw [List.getElem?_append_right (by omega), show X.length + (k - cx.length) - X.length = k - cx.length by omega]; exact hq)
  · by_cases h : i < cx.length <;> by_cases h' : j < cx.length
    · rw [List.getElem?_append_left h] at ha
      rw [List.getElem?_append_left h'] at hb
      obtain ⟨i1, g1, h1⟩ := hin i a ha
      obtain ⟨j1, g2, h2⟩ := hin j b hb
      have e1 := hD.1 i1 j1 a b (by rw [List.getElem?_append_left (List.getElem?_eq_some_iff.mp h1).1]; exact h1) (by rw [List.getElem?_append_left (List.getElem?_eq_some_iff.mp h2).1]; exact h2) hab
      subst e1
      exact va_nd_inj isC hCn i j i1 g1 g2
    · rw [List.getElem?_append_left h] at ha
      rw [List.getElem?_append_right (by omega)] at hb
      obtain ⟨i1, g1, h1⟩ := hin i a ha
      exact absurd hab (zD_ap hD (List.mem_of_getElem? h1) (List.mem_of_getElem? hb))
    · rw [List.getElem?_append_left h'] at hb
      rw [List.getElem?_append_right (by omega)] at ha
      obtain ⟨i1, g1, h1⟩ := hin j b hb
      exact absurd hab.symm (zD_ap hD (List.mem_of_getElem? h1) (List.mem_of_getElem? ha))
    · rw [List.getElem?_append_right (by omega)] at ha hb
      have := hD.1 (X.length + (i - cx.length)) (X.length + (j - cx.length)) a b (by rw [List.getElem?_append_right (by omega), show X.length + (i - cx.length) - X.length = i - cx.length by omega]; exact ha) (by rw [List.getElem?_append_right (by omega), show X.length + (j - cx.length) - X.length = j - cx.length by omega]; exact hb) hab
      omega
  · by_cases h : k < cx.length
    · rw [List.getElem?_append_left h] at hq
      obtain ⟨i, -, h2⟩ := hin k q hq
      exact hD.2 i q (by rw [List.getElem?_append_left (List.getElem?_eq_some_iff.mp h2).1]; exact h2)
    · rw [List.getElem?_append_right (by omega)] at hq
      exact hD.2 (X.length + (k - cx.length)) q (by rw [List.getElem?_append_right (by omega), show X.length + (k - cx.length) - X.length = k - cx.length by omega]; exact hq)
theorem zif_c {a b : Prop} [Decidable a] [Decidable b] {x y : Int32} (h : a ↔ b) : (if a then x else y) = if b then x else y := by
  by_cases q : a
  · rw [if_pos q, if_pos (h.mp q)]
  · rw [if_neg q, if_neg (fun z => q (h.mpr z))]

theorem w_X3_keep__fieldLink_RX3_27_WordsBeside_states_LWordsBeside_World__935a9c : (.fieldLink RX3 27 "WordsBeside" "states" "[LWordsBeside$World;" : Cond) ∈ wsX3_keep := by decide +kernel
theorem w_X3_keep__fieldLink_RX3_31_WordsBeside_kept_I__a1b92e : (.fieldLink RX3 31 "WordsBeside" "kept" "I" : Cond) ∈ wsX3_keep := by decide +kernel
theorem w_X3_keep__fieldLink_RX3_36_WordsBeside_claims_LWordsBeside_Claim__842a06 : (.fieldLink RX3 36 "WordsBeside" "claims" "[LWordsBeside$Claim;" : Cond) ∈ wsX3_keep := by decide +kernel
theorem w_X3_keep__fieldLink_RX3_40_WordsBeside_came_I__48f8c3 : (.fieldLink RX3 40 "WordsBeside" "came" "I" : Cond) ∈ wsX3_keep := by decide +kernel
theorem w_X3_keep__fieldLink_RX3_92_WordsBeside_Claim_lastHeld_I__f6b92d : (.fieldLink RX3 92 "WordsBeside$Claim" "lastHeld" "I" : Cond) ∈ wsX3_keep := by decide +kernel
theorem in_X3_keep_X0 : ∀ w ∈ wsX00, w ∈ wsX3_keep := fun _ h => List.mem_cons_of_mem _ (List.mem_append_left _ (List.mem_append_left _ (List.mem_append_right _ h)))
theorem in_X3_keep_X3 : ∀ w ∈ wsX30, w ∈ wsX3_keep := fun _ h => List.mem_cons_of_mem _ (List.mem_append_left _ (List.mem_append_left _ (List.mem_append_left _ (List.mem_append_right _ h))))
set_option maxHeartbeats 4000000 in
set_option maxRecDepth 100000 in
theorem c_X3_keep (l : Launch) (D : va_G) (cI cZ cW cC : ClassId) (ad : Nat → Nat) (st ln N : Nat → Int32) (fs fc : Nat → Option Nat) (hm : Nat → Int32) (se kp cm : Int32) (PL : List Nat) (pf : Nat → va_E) (sn : Nat) (hsn : sn ≤ 6) (es : se = nI sn) (L : Nat → Nat) (HL : zHL ln L) (HV : ∀ f, f < 6 → zvs st f (L f)) (hOK : zOK st L N sn) (Gt : Nat → Int32) (hGt : zOK st L Gt 6) (k : Nat) (hk : k ≤ 30) (ek : kp = nI k) (wo go : Nat → Nat) (Gs : Nat → Nat → Int32) (HW : zPW cI PL pf fs wo go Gs k) (n : Nat) (hn : n ≤ 40) (en : cm = nI n) (co fo bo : Nat → Nat) (kF fF sF lh mF : Nat → Int32) (HC : zPC PL pf fc co fo bo kF fF sF lh mF n) (hfo : ∀ i, i < n → fo i < 6) (sz : Nat) : zq_mu l D cI cZ cW cC yX3_keep wsX3_keep ({ frames := 5, cells := 2, slots := 1537, locals := 119 } : Room) [.ref (ad 0)] ((cX cI cW cC ad st ln N fs fc hm se kp cm) ++ va_pl PL pf) sz (fun v w1 => (k < 30 ∧ v = some (.int (nI (k + 1))) ∧ ∃ (N3 : Nat → Int32) (sn3 : Nat) (PL2 : List Nat) (pf2 : Nat → va_E) (fs2 : Nat → Option Nat) (wo2 go2 : Nat → Nat) (Gs2 : Nat → Nat → Int32) (lh2 : Nat → Int32), w1 = ((cX cI cW cC ad st ln N3 fs2 fc hm (nI sn3) (nI (k + 1)) cm) ++ va_pl PL2 pf2) ∧ sn3 ≤ 6 ∧ zOK st L N3 sn3 ∧ zPW cI PL2 pf2 fs2 wo2 go2 Gs2 (k + 1) ∧ zPC PL2 pf2 fc co fo bo kF fF sF lh2 mF n ∧ (∀ t, t ≤ k → Gs2 t = Gs t) ∧ (∀ j, j < 1536 → Gs2 (k + 1) j = Gt j) ∧ ∀ q, q < n → lh2 q = if zheld (zdn Gt fo kF fF sF q) then nI (k + 1) else lh q) ∨ (k = 30 ∧ v = some (.int (-1)) ∧ w1 = ((cX cI cW cC ad st ln N fs fc hm (nI sn) (nI k) cm) ++ va_pl PL pf))) 2 1537 := by
  refine zq_muI (own := RX3) (by decide) rfl rfl (Nat.le_of_ble_eq_true rfl) ?_
  intro p e s m below meth c Q A ls hsz hF hin hA hP hK hD hS hl ret
  obtain ⟨hx, hb, hml, hown, hts⟩ := hF
  have hl : lv_has ls 4 [(0, .ref (ad 0))] := hl
  subst es
  subst ek
  refine lv_aload_n hx hb dX3_keep_0 rfl (lv_at hl 0 rfl) ?_
  refine zq_get hx hb hts in_X3_keep_X3 hown hK hP 0 rfl rfl 4 (by decide) (hts _ w_X3_keep__fieldLink_RX3_31_WordsBeside_kept_I__a1b92e) rfl dX3_keep_1 ?_
  refine lv_bipush (v := (nI 30)) hx hb dX3_keep_4 (by decide) ?_
  refine lv_icmp_lt (tgt := 11) hx hb dX3_keep_6 (by decide) (fun c6 => ?_) (fun c6 => ?_)
  · have h6 := zlt c6
    refine lv_aload_n hx hb dX3_keep_11 rfl (lv_at hl 0 rfl) ?_
    refine zq_cM (rest := []) ⟨hx, hb, hml, hown, hts⟩ (c_X3_present l D cI cZ cW cC ad st ln N fs fc hm (nI sn) (nI k) cm PL pf L HL HV sn hsn rfl hOK _) (cwV 0 hts gX3_keep_X3_present rfl rfl rfl (by decide +kernel) ⟨Nat.le_of_ble_eq_true rfl, Nat.le_of_ble_eq_true rfl⟩) hK hP hD hS hA 3 0 rfl rfl rfl hl.1 rfl (Nat.le_of_ble_eq_true rfl) dX3_keep_12 ⟨Nat.le_of_ble_eq_true rfl, Nat.le_of_ble_eq_true rfl⟩ (fun v w1 H locs hv hP hD hS => ?_)
    obtain ⟨rfl, N2, rfl, hN2⟩ := hv
    have hP : va_P D vwCl ((cX cI cW cC ad st ln N2 fs fc hm (nI 6) (nI k) cm) ++ va_pl PL pf) H := hP
    have hD : va_D A ((cX cI cW cC ad st ln N2 fs fc hm (nI 6) (nI k) cm) ++ va_pl PL pf) := hD
    refine W.eq (g2 := F0 m 15 ls [.ref (ad 4)]) rfl ?_
    have eN : ∀ j, j < 1536 → N2 j = Gt j := zOK_one (by omega) hN2 hGt HV
    refine zq_cQ (rest := []) (X := [((ad 0), .inr (3, [.ref (ad 1), .ref (ad 4), .int (nI 6), .ref (ad 6), .int (nI k), .ref (ad 7), .int cm, .ref (ad 8)])), ((ad 1), .inr (1, [.ref (ad 2), .ref (ad 3)])), ((ad 2), .inl (cI, 72, .inl st)), ((ad 3), .inl (cI, 6, .inl ln)), ((ad 4), .inr (2, [.ref (ad 5)])), ((ad 5), .inl (cI, 1536, .inl N2)), ((ad 6), .inl (cW, 31, .inr (.inr (.inr (.inr fs))))), ((ad 7), .inl (cC, 40, .inr (.inr (.inr (.inr fc))))), ((ad 8), .inl (cI, 40, .inl hm))]) (pl := va_pl PL pf) (wr := [((ad 0), .inr (3, [.ref (ad 1), .ref (ad 4), .int (nI 6), .ref (ad 6), .int (nI k), .ref (ad 7), .int cm, .ref (ad 8)])), ((ad 1), .inr (1, [.ref (ad 2), .ref (ad 3)])), ((ad 2), .inl (cI, 72, .inl st)), ((ad 3), .inl (cI, 6, .inl ln)), ((ad 6), .inl (cW, 31, .inr (.inr (.inr (.inr fs))))), ((ad 7), .inl (cC, 40, .inr (.inr (.inr (.inr fc))))), ((ad 8), .inl (cI, 40, .inl hm))]) ⟨hx, hb, hml, hown, hts⟩ (c_X2_copy l D cI cZ cW cC (ad 4) (ad 5) N2 _) (cwV 0 hts gX3_keep_X2_copy rfl rfl rfl (by decide +kernel) ⟨Nat.le_of_ble_eq_true rfl, Nat.le_of_ble_eq_true rfl⟩) hK hP hD hS hA [4, 5] [0, 1, 2, 3, 6, 7, 8] rfl rfl rfl rfl (by decide) 2 0 rfl rfl rfl hl.1 rfl (Nat.le_of_ble_eq_true rfl) dX3_keep_15 ⟨Nat.le_of_ble_eq_true rfl, Nat.le_of_ble_eq_true rfl⟩ (fun v w1 H locs hv hP hD hS => ?_)
    obtain ⟨w2, g2, G2, rfl, rfl, hG2⟩ := hv
    have hX := zq_reP (cx := [((ad 0), .inr (3, [.ref (ad 1), .ref (ad 4), .int (nI 6), .ref (ad 6), .int (nI k), .ref (ad 7), .int cm, .ref (ad 8)])), ((ad 1), .inr (1, [.ref (ad 2), .ref (ad 3)])), ((ad 2), .inl (cI, 72, .inl st)), ((ad 3), .inl (cI, 6, .inl ln)), ((ad 4), .inr (2, [.ref (ad 5)])), ((ad 5), .inl (cI, 1536, .inl N2)), ((ad 6), .inl (cW, 31, .inr (.inr (.inr (.inr fs))))), ((ad 7), .inl (cC, 40, .inr (.inr (.inr (.inr fc))))), ((ad 8), .inl (cI, 40, .inl hm)), (w2, .inr (2, [.ref g2])), (g2, .inl (cI, 1536, .inl G2))]) (pl := va_pl PL pf) [0, 1, 2, 3, 7, 8, 4, 5, 6, 9, 10] rfl (by decide) hP hD
    obtain ⟨hfr1, hfr2, hfr3, hP, hD⟩ := zpl_push2 (X := (cX cI cW cC ad st ln N2 fs fc hm (nI 6) (nI k) cm)) (a := w2) (b := g2) hX.1 hX.2
    obtain ⟨PL2, ePL2⟩ : ∃ z, z = PL ++ [w2, g2] := ⟨_, rfl⟩
    obtain ⟨pf15, epf15⟩ : ∃ z, z = va_up (va_up pf w2 (.inr (2, [.ref g2]))) g2 (.inl (cI, 1536, .inl G2)) := ⟨_, rfl⟩
    rw [← ePL2, ← epf15] at hP hD
    have hw2 : w2 ∈ PL2 := by rw [ePL2]; simp
    have hg2 : g2 ∈ PL2 := by rw [ePL2]; simp
    have ew2 : pf15 w2 = .inr (2, [.ref g2]) := by rw [epf15, va_up_ne _ _ hfr3, va_up_self]
    have eg2 : pf15 g2 = .inl (cI, 1536, .inl G2) := by rw [epf15, va_up_self]
    have hmo : ∀ a, a ∈ PL → a ∈ PL2 ∧ pf15 a = pf a := fun a ha => ⟨by rw [ePL2]; exact List.mem_append_left _ ha, by rw [epf15, va_up_ne _ _ (fun z : a = g2 => hfr2 (z ▸ ha)), va_up_ne _ _ (fun z : a = w2 => hfr1 (z ▸ ha))]⟩
    have HW2 := zPW_add (zPW_mono HW hmo) hw2 ew2 hg2 eg2
    have HC2 := zPC_mono HC hmo
    have hP : va_P D vwCl ((cX cI cW cC ad st ln N2 fs fc hm (nI 6) (nI k) cm) ++ va_pl PL2 pf15) H := hP
    have hD : va_D A ((cX cI cW cC ad st ln N2 fs fc hm (nI 6) (nI k) cm) ++ va_pl PL2 pf15) := hD
    refine W.eq (g2 := F0 m 18 ls [.ref w2]) rfl ?_
    refine lv_astore_n (lv' := [(1, .ref w2), (0, .ref (ad 0))]) hx hb dX3_keep_18 rfl hl (by decide) rfl (fun ls hl => ?_)
    refine lv_aload_n hx hb dX3_keep_19 rfl (lv_at hl 1 rfl) ?_
    refine lv_dup hx hb dX3_keep_20 rfl ?_
    refine zq_get hx hb hts in_X3_keep_X3 hown hK hP 0 rfl rfl 4 (by decide) (hts _ w_X3_keep__fieldLink_RX3_31_WordsBeside_kept_I__a1b92e) rfl dX3_keep_21 ?_
    refine lv_iconst (v := (nI 1)) hx hb dX3_keep_24 (by decide) ?_
    refine lv_iadd hx hb dX3_keep_25 ?_
    refine zq_te (y := (nI (k + 1))) (nI_add _ _) ?_
    refine zq_put hx hb hts in_X3_keep_X3 tyX3 tyX3_ok nmX3 hown hK hP hD hS 0 rfl rfl 4 (by decide) (hts _ w_X3_keep__fieldLink_RX3_31_WordsBeside_kept_I__a1b92e) rfl rfl rfl (Nat.le_of_ble_eq_true rfl) dX3_keep_26 (fun H locs hP hD hS => ?_)
    have hP : va_P D vwCl ((cX cI cW cC ad st ln N2 fs fc hm (nI 6) (nI (k + 1)) cm) ++ va_pl PL2 pf15) H := hP
    have hD : va_D A ((cX cI cW cC ad st ln N2 fs fc hm (nI 6) (nI (k + 1)) cm) ++ va_pl PL2 pf15) := hD
    refine lv_aload_n hx hb dX3_keep_29 rfl (lv_at hl 1 rfl) ?_
    refine zq_get hx hb hts in_X3_keep_X3 hown hK hP 0 rfl rfl 3 (by decide) (hts _ w_X3_keep__fieldLink_RX3_27_WordsBeside_states_LWordsBeside_World__935a9c) rfl dX3_keep_30 ?_
    refine lv_aload_n hx hb dX3_keep_33 rfl (lv_at hl 1 rfl) ?_
    refine zq_get hx hb hts in_X3_keep_X3 hown hK hP 0 rfl rfl 4 (by decide) (hts _ w_X3_keep__fieldLink_RX3_31_WordsBeside_kept_I__a1b92e) rfl dX3_keep_34 ?_
    refine lv_aload_n hx hb dX3_keep_37 rfl (lv_at hl 0 rfl) ?_
    obtain ⟨kq, hq⟩ := zpl_at (X := (cX cI cW cC ad st ln N2 fs fc hm (nI 6) (nI (k + 1)) cm)) hw2 ew2
    refine zq_astW hx hb hK hP hD hS 6 kq rfl hq (k + 1) rfl (by omega) (by decide) dX3_keep_38 (fun H locs hP hD hS => ?_)
    have hP : va_P D vwCl ((cX cI cW cC ad st ln N2 (va_up fs (k + 1) (some w2)) fc hm (nI 6) (nI (k + 1)) cm) ++ va_pl PL2 pf15) H := hP
    have hD : va_D A ((cX cI cW cC ad st ln N2 (va_up fs (k + 1) (some w2)) fc hm (nI 6) (nI (k + 1)) cm) ++ va_pl PL2 pf15) := hD
    refine lv_iconst (v := (nI 0)) hx hb dX3_keep_39 (by decide) ?_
    refine lv_istore_n (lv' := [(2, .int (nI 0)), (1, .ref w2), (0, .ref (ad 0))]) hx hb dX3_keep_40 rfl hl (by decide) rfl (fun ls hl => ?_)
    have loop41 : ∀ (fu41 : Nat) (j : Nat) (pfj : Nat → va_E) (lj : Nat → Int32) (H : Heap) (locs : List Loc) (ls : Array Slot), (n - j) < fu41 → (j ≤ n) → (zPW cI PL2 pfj (va_up fs (k + 1) (some w2)) (va_up wo (k + 1) w2) (va_up go (k + 1) g2) (va_up Gs (k + 1) G2) (k + 1)) → (zPC PL2 pfj fc co fo bo kF fF sF lj mF n) → (∀ q, lj q = if q < j ∧ zheld (zden G2 (fo q) (kF q) (fF q) (sF q)) = true then nI (k + 1) else lh q) → va_P D vwCl ((cX cI cW cC ad st ln N2 (va_up fs (k + 1) (some w2)) fc hm (nI 6) (nI (k + 1)) cm) ++ va_pl PL2 pfj) H → va_D A ((cX cI cW cC ad st ln N2 (va_up fs (k + 1) (some w2)) fc hm (nI 6) (nI (k + 1)) cm) ++ va_pl PL2 pfj) → va_S A s.heap H locs → lv_has ls 4 [(0, .ref (ad 0)), (1, .ref w2), (2, .int (nI j))] → W p l e ({ frames := 5, cells := 2, slots := 1537, locals := 119 } : Room) s m ([.ref (ad 0)] : List Value).toArray below meth c H locs 2 1537 Q (F0 m 41 ls []) := by
      intro fu41
      induction fu41 with
      | zero => intro _ _ _ _ _ _ hmu; exact absurd hmu (Nat.not_lt_zero _)
      | succ fu41 ih41 =>
        intro j pfj lj H locs ls hmu41 hj HWj HCj hlj hP hD hS hl
        refine lv_iload_n hx hb dX3_keep_41 rfl (lv_at hl 2 rfl) ?_
        refine lv_aload_n hx hb dX3_keep_42 rfl (lv_at hl 0 rfl) ?_
        refine zq_get hx hb hts in_X3_keep_X3 hown hK hP 0 rfl rfl 6 (by decide) (hts _ w_X3_keep__fieldLink_RX3_40_WordsBeside_came_I__48f8c3) rfl dX3_keep_43 ?_
        refine zq_te (y := (nI n)) en ?_
        refine lv_icmp_ge (tgt := 82) hx hb dX3_keep_46 (by decide) (fun c46 => ?_) (fun c46 => ?_)
        · have h46 := zle c46
          refine lv_aload_n hx hb dX3_keep_82 rfl (lv_at hl 0 rfl) ?_
          refine zq_get hx hb hts in_X3_keep_X3 hown hK hP 0 rfl rfl 4 (by decide) (hts _ w_X3_keep__fieldLink_RX3_31_WordsBeside_kept_I__a1b92e) rfl dX3_keep_83 ?_
          refine W.widen (k := 2) (n := 1537) (by omega) (by omega) ?_
          exact ret _ _ _ _ _ _ (by exact Or.inl ⟨by omega, rfl, N2, 6, PL2, pfj, _, _, _, _, lj, rfl, by omega, hN2, HWj, HCj, fun t ht => va_up_ne _ _ (by omega), fun j hj => by rw [va_up_self, hG2 j hj, eN j hj], fun q hq => by rw [hlj q, zdn, ← zheld_cong (fun j hj => (hG2 j hj).trans (eN j hj)) (hfo q hq)]; exact zif_c ⟨fun h => h.2, fun h => ⟨by omega, h⟩⟩⟩) hP hD hS dX3_keep_86
        · have h46 := znle c46
          have hfj := hfo j (znle c46)
          obtain ⟨-, b2, b3, b4, b5⟩ := HWj (k + 1) (Nat.le_refl _)
          rw [va_up_self] at b2 b3 b4 b5
          rw [va_up_self] at b3 b5
          refine lv_aload_n hx hb dX3_keep_49 rfl (lv_at hl 0 rfl) ?_
          refine zq_get hx hb hts in_X3_keep_X3 hown hK hP 0 rfl rfl 5 (by decide) (hts _ w_X3_keep__fieldLink_RX3_36_WordsBeside_claims_LWordsBeside_Claim__842a06) rfl dX3_keep_50 ?_
          refine lv_iload_n hx hb dX3_keep_53 rfl (lv_at hl 2 rfl) ?_
          refine zq_aldC hx hb hK hP 7 rfl j rfl (by omega) (by decide) dX3_keep_54 ?_
          rw [show (fc j) = some (co j) from (HCj.1 j (by omega)).1]
          show W _ _ _ _ _ _ _ _ _ _ _ _ _ _ _ (F0 _ _ _ (.ref (co j) :: _))
          refine lv_astore_n (lv' := [(3, .ref (co j)), (0, .ref (ad 0)), (1, .ref w2), (2, .int (nI j))]) hx hb dX3_keep_55 rfl hl (by decide) rfl (fun ls hl => ?_)
          refine lv_aload_n hx hb dX3_keep_56 rfl (lv_at hl 0 rfl) ?_
          refine lv_ifnull hx hb dX3_keep_57 ?_
          refine lv_aload_n hx hb dX3_keep_60 rfl (lv_at hl 0 rfl) ?_
          refine lv_aload_n hx hb dX3_keep_61 rfl (lv_at hl 2 rfl) ?_
          refine zq_cV (rest := []) ⟨hx, hb, hml, hown, hts⟩ (c_X0_isHeldIn l D cI cZ cW cC (co j) w2 g2 G2 (fo j) hfj (kF j) (fF j) (sF j) (nI (bo j)) (lj j) (mF j)) (cwV 1 hts gX3_keep_X0_isHeldIn rfl rfl rfl (by decide +kernel) ⟨Nat.le_of_ble_eq_true rfl, Nat.le_of_ble_eq_true rfl⟩) hK (zP_3 (zP_pl hP (HCj.1 j (by omega)).2.1 (HCj.1 j (by omega)).2.2) (zP_pl hP b2 b3) (zP_pl hP b4 b5)) 0 0 rfl rfl rfl hl.1 rfl (Nat.le_of_ble_eq_true rfl) dX3_keep_62 ⟨Nat.le_of_ble_eq_true rfl, Nat.le_of_ble_eq_true rfl⟩ (fun v hv => ?_)
          obtain rfl := hv
          refine W.eq (g2 := F0 m 65 ls [.int (if zheld (zden G2 (fo j) (kF j) (fF j) (sF j)) then (1 : Int32) else 0)]) rfl ?_
          refine lv_if_eq (tgt := 76) hx hb dX3_keep_65 (by decide) (fun c65 => ?_) (fun c65 => ?_)
          · refine lv_iinc (v := (nI (j + 1))) (lv' := [(2, .int (nI (j + 1))), (3, .ref (co j)), (0, .ref (ad 0)), (1, .ref w2)]) hx hb dX3_keep_76 hl (k := 3) rfl ((nI_succ _).symm) (by decide) rfl (fun ls hl => ?_)
            refine lv_goto (tgt := 41) hx hb dX3_keep_79 (by decide) ?_
            exact ih41 (j + 1) pfj lj _ _ ls (by omega) (by omega) HWj HCj (fun q => by
                                        rw [hlj q]; refine zif_c ⟨fun h => ⟨by omega, h.2⟩, fun h => ⟨?_, h.2⟩⟩
                                        by_cases e : q = j
                                        · subst e; exact absurd h.2 (by rw [zct_bb c65]; decide)
                                        · omega) hP hD hS (lv_sub hl [2, 3, 0] rfl)
          · refine lv_aload_n hx hb dX3_keep_68 rfl (lv_at hl 0 rfl) ?_
            refine lv_aload_n hx hb dX3_keep_69 rfl (lv_at hl 1 rfl) ?_
            refine zq_get hx hb hts in_X3_keep_X3 hown hK hP 0 rfl rfl 4 (by decide) (hts _ w_X3_keep__fieldLink_RX3_31_WordsBeside_kept_I__a1b92e) rfl dX3_keep_70 ?_
            obtain ⟨kq, hq⟩ := zpl_at (X := (cX cI cW cC ad st ln N2 (va_up fs (k + 1) (some w2)) fc hm (nI 6) (nI (k + 1)) cm)) (HCj.1 j (by omega)).2.1 (HCj.1 j (by omega)).2.2
            have eset := zpl_set (e := .inr (0, [.int (nI (fo j)), .int (kF j), .int (fF j), .int (sF j), .int (nI (bo j)), .int (nI (k + 1)), .int (mF j)])) hD (HCj.1 j (by omega)).2.1 (HCj.1 j (by omega)).2.2 hq
            refine zq_put hx hb hts in_X3_keep_X0 tyX0 tyX0_ok nmX0 hown hK hP hD hS kq hq rfl 5 (by decide) (hts _ w_X3_keep__fieldLink_RX3_92_WordsBeside_Claim_lastHeld_I__f6b92d) rfl rfl rfl (Nat.le_of_ble_eq_true rfl) dX3_keep_73 (fun H locs hP hD hS => ?_)
            obtain ⟨pf73, epf73⟩ : ∃ z, z = va_up pfj (co j) (.inr (0, [.int (nI (fo j)), .int (kF j), .int (fF j), .int (sF j), .int (nI (bo j)), .int (nI (k + 1)), .int (mF j)])) := ⟨_, rfl⟩
            rw [← epf73] at eset
            have hP : va_P D vwCl ((cX cI cW cC ad st ln N2 (va_up fs (k + 1) (some w2)) fc hm (nI 6) (nI (k + 1)) cm) ++ va_pl PL2 pf73) H := by rw [← eset]; exact hP
            have hD : va_D A ((cX cI cW cC ad st ln N2 (va_up fs (k + 1) (some w2)) fc hm (nI 6) (nI (k + 1)) cm) ++ va_pl PL2 pf73) := by rw [← eset]; exact hD
            have HCn : zPC PL2 pf73 fc co fo bo kF fF sF (upd lj j (nI (k + 1))) mF n := zPC_up HCj (i := j) (by omega) (by rw [epf73]; simp only [pk_us]) (fun _ _ => rfl) (fun _ _ => rfl) (fun q hq => pk_un hq) (fun _ _ => rfl)
            have HWn : zPW cI PL2 pf73 (va_up fs (k + 1) (some w2)) (va_up wo (k + 1) w2) (va_up go (k + 1) g2) (va_up Gs (k + 1) G2) (k + 1) := by rw [epf73]; exact zPW_up HWj (HCj.1 j (by omega)).2.2
            refine lv_iinc (v := (nI (j + 1))) (lv' := [(2, .int (nI (j + 1))), (3, .ref (co j)), (0, .ref (ad 0)), (1, .ref w2)]) hx hb dX3_keep_76 hl (k := 3) rfl ((nI_succ _).symm) (by decide) rfl (fun ls hl => ?_)
            refine lv_goto (tgt := 41) hx hb dX3_keep_79 (by decide) ?_
            exact ih41 (j + 1) pf73 (upd lj j (nI (k + 1))) _ _ ls (by omega) (by omega) HWn HCn (fun q => by
                                        by_cases e : q = j
                                        · subst e; rw [pk_us, if_pos ⟨by omega, zct_aa c65⟩]
                                        · rw [pk_un e, hlj q]; exact zif_c (by constructor <;> (intro h; exact ⟨by omega, h.2⟩))) hP hD hS (lv_sub hl [2, 3, 0] rfl)
    exact loop41 (n + 1) 0 pf15 lh _ _ ls (by omega) (by omega) HW2 HC2 (fun q => by rw [if_neg (fun h => absurd h.1 (Nat.not_lt_zero _))]) hP hD hS (lv_sub hl [2, 1, 0] rfl)
  · have h6 := znlt c6
    refine lv_iconst (v := (-1 : Int32)) hx hb dX3_keep_9 (by decide) ?_
    refine W.widen (k := 2) (n := 1537) (by omega) (by omega) ?_
    exact ret _ _ _ _ _ _ (by exact Or.inr ⟨by omega, rfl, rfl⟩) hP hD hS dX3_keep_10
theorem w_X3_claim__classLink_RX3_34_RX0_0c487f : (.classLink RX3 34 RX0 : Cond) ∈ wsX3_claim := by decide +kernel
theorem w_X3_claim__fieldLink_RX3_31_WordsBeside_kept_I__a1b92e : (.fieldLink RX3 31 "WordsBeside" "kept" "I" : Cond) ∈ wsX3_claim := by decide +kernel
theorem w_X3_claim__fieldLink_RX3_36_WordsBeside_claims_LWordsBeside_Claim__842a06 : (.fieldLink RX3 36 "WordsBeside" "claims" "[LWordsBeside$Claim;" : Cond) ∈ wsX3_claim := by decide +kernel
theorem w_X3_claim__fieldLink_RX3_40_WordsBeside_came_I__48f8c3 : (.fieldLink RX3 40 "WordsBeside" "came" "I" : Cond) ∈ wsX3_claim := by decide +kernel
theorem w_X3_claim__fieldLink_RX3_92_WordsBeside_Claim_lastHeld_I__f6b92d : (.fieldLink RX3 92 "WordsBeside$Claim" "lastHeld" "I" : Cond) ∈ wsX3_claim := by decide +kernel
theorem w_X3_claim__initialized_RX0_644e73 : (.initialized RX0 : Cond) ∈ wsX3_claim := by decide +kernel
theorem w_X3_claim__instanceMethod_yX0_init_222f4c : (.instanceMethod yX0_init : Cond) ∈ wsX3_claim := by decide +kernel
theorem w_X3_claim__instantiable_RX0_7_d61b10 : (.instantiable RX0 7 : Cond) ∈ wsX3_claim := by decide +kernel
theorem w_X3_claim__methodLink_RX3_103_yX0_init_504727 : (.methodLink RX3 103 yX0_init : Cond) ∈ wsX3_claim := by decide +kernel
theorem in_X3_claim_X0 : ∀ w ∈ wsX00, w ∈ wsX3_claim := fun _ h => List.mem_cons_of_mem _ (List.mem_append_left _ (List.mem_append_right _ h))
theorem in_X3_claim_X3 : ∀ w ∈ wsX30, w ∈ wsX3_claim := fun _ h => List.mem_cons_of_mem _ (List.mem_append_left _ (List.mem_append_left _ (List.mem_append_right _ h)))
set_option maxHeartbeats 4000000 in
set_option maxRecDepth 100000 in
theorem c_X3_claim (l : Launch) (D : va_G) (cI cZ cW cC : ClassId) (ad : Nat → Nat) (st ln N : Nat → Int32) (fs fc : Nat → Option Nat) (hm : Nat → Int32) (se kp cm : Int32) (PL : List Nat) (pf : Nat → va_E) (k : Nat) (hk : k ≤ 30) (ek : kp = nI k) (wo go : Nat → Nat) (Gs : Nat → Nat → Int32) (HW : zPW cI PL pf fs wo go Gs k) (n : Nat) (hn : n ≤ 40) (en : cm = nI n) (co fo bo : Nat → Nat) (kF fF sF lh mF : Nat → Int32) (HC : zPC PL pf fc co fo bo kF fF sF lh mF n) (fx kd p1 q1 : Int32) (sz : Nat) : zq_mu l D cI cZ cW cC yX3_claim wsX3_claim ({ frames := 5, cells := 1, slots := 7, locals := 115 } : Room) [.ref (ad 0), .int fx, .int kd, .int p1, .int q1] ((cX cI cW cC ad st ln N fs fc hm se kp cm) ++ va_pl PL pf) sz (fun v w1 => (∃ f, f < 6 ∧ fx = nI f ∧ zcl kd p1 q1 ∧ n < 40 ∧ v = some (.int (nI n)) ∧ ∃ (PL2 : List Nat) (pf2 : Nat → va_E) (ca : Nat), w1 = ((cX cI cW cC ad st ln N fs (va_up fc n (some ca)) hm se (nI k) (nI (n + 1))) ++ va_pl PL2 pf2) ∧ zPW cI PL2 pf2 fs wo go Gs k ∧ zPC PL2 pf2 (va_up fc n (some ca)) (va_up co n ca) (va_up fo n f) (va_up bo n k) (upd kF n kd) (upd fF n p1) (upd sF n q1) (upd lh n (zlk (fun t => zheld (zden (Gs t) f kd p1 q1)) k (k + 1))) (upd mF n 0) (n + 1)) ∨ (¬ (zr 6 fx ∧ zcl kd p1 q1 ∧ n < 40) ∧ v = some (.int (-1)) ∧ w1 = ((cX cI cW cC ad st ln N fs fc hm se (nI k) (nI n)) ++ va_pl PL pf))) 1 7 := by
  refine zq_muI (own := RX3) (by decide) rfl rfl (Nat.le_of_ble_eq_true rfl) ?_
  intro p e s m below meth c Q A ls hsz hF hin hA hP hK hD hS hl ret
  obtain ⟨hx, hb, hml, hown, hts⟩ := hF
  have hl : lv_has ls 6 [(0, .ref (ad 0)), (1, .int fx), (2, .int kd), (3, .int p1), (4, .int q1)] := hl
  subst ek
  subst en
  refine lv_aload_n hx hb dX3_claim_0 rfl (lv_at hl 0 rfl) ?_
  refine zq_get hx hb hts in_X3_claim_X3 hown hK hP 0 rfl rfl 6 (by decide) (hts _ w_X3_claim__fieldLink_RX3_40_WordsBeside_came_I__48f8c3) rfl dX3_claim_1 ?_
  refine lv_bipush (v := (nI 40)) hx hb dX3_claim_4 (by decide) ?_
  refine lv_icmp_ge (tgt := 26) hx hb dX3_claim_6 (by decide) (fun c6 => ?_) (fun c6 => ?_)
  · have h6 := zle c6
    refine lv_iconst (v := (-1 : Int32)) hx hb dX3_claim_26 (by decide) ?_
    refine W.widen (k := 1) (n := 7) (by omega) (by omega) ?_
    exact ret _ _ _ _ _ _ (by exact Or.inr ⟨fun q => absurd q.2.2 (by omega), rfl, rfl⟩) hP hD hS dX3_claim_27
  · have h6 := znle c6
    refine lv_iload_n hx hb dX3_claim_9 rfl (lv_at hl 1 rfl) ?_
    refine zq_cS (rest := []) ⟨hx, hb, hml, hown, hts⟩ (c_X3_isFunction l D cI cZ cW cC fx) (va_cwS 1 hts gX3_claim_X3_isFunction rfl rfl rfl (by decide +kernel) ⟨Nat.le_of_ble_eq_true rfl, Nat.le_of_ble_eq_true rfl⟩) hK (fun k q h => by simp at h) rfl hl.1 rfl (Nat.le_of_ble_eq_true rfl) dX3_claim_10 ⟨Nat.le_of_ble_eq_true rfl, Nat.le_of_ble_eq_true rfl⟩ (fun v hv => ?_)
    rcases hv with ⟨rfl, f, hf, rfl⟩ | ⟨rfl, hyf⟩
    · refine W.eq (g2 := F0 m 13 ls [.int (1 : Int32)]) rfl ?_
      refine lv_if_eq (tgt := 26) hx hb dX3_claim_13 (by decide) (fun c13 => absurd c13 (by decide)) (fun c13 => ?_)
      refine lv_iload_n hx hb dX3_claim_16 rfl (lv_at hl 2 rfl) ?_
      refine lv_iload_n hx hb dX3_claim_17 rfl (lv_at hl 3 rfl) ?_
      refine lv_iload hx hb dX3_claim_18 (lv_at hl 4 rfl) ?_
      refine zq_cS (rest := []) ⟨hx, hb, hml, hown, hts⟩ (c_X3_canBeClaimed l D cI cZ cW cC kd p1 q1) (va_cwS 3 hts gX3_claim_X3_canBeClaimed rfl rfl rfl (by decide +kernel) ⟨Nat.le_of_ble_eq_true rfl, Nat.le_of_ble_eq_true rfl⟩) hK (fun k q h => by simp at h) rfl hl.1 rfl (Nat.le_of_ble_eq_true rfl) dX3_claim_20 ⟨Nat.le_of_ble_eq_true rfl, Nat.le_of_ble_eq_true rfl⟩ (fun v hv => ?_)
      rcases hv with ⟨rfl, hyk⟩ | ⟨rfl, hyk⟩
      · refine W.eq (g2 := F0 m 23 ls [.int (1 : Int32)]) rfl ?_
        refine lv_if_ne (tgt := 28) hx hb dX3_claim_23 (by decide) (fun c23 => ?_) (fun c23 => absurd c23 (by decide))
        refine va_new (ci := 0) (fs := [.int 0, .int 0, .int 0, .int 0, .int 0, .int 0, .int 0]) (C := RX0) (T := TX0) (N := 7) hx hb hts in_X3_claim_X0 tyX0 tyX0_ok hown (hts _ w_X3_claim__classLink_RX3_34_RX0_0c487f) (hts _ w_X3_claim__instantiable_RX0_7_d61b10) (hts _ w_X3_claim__initialized_RX0_644e73) hK.1 hP hD hS hA rfl (fun j hj => by rcases (show j = 0 ∨ j = 1 ∨ j = 2 ∨ j = 3 ∨ j = 4 ∨ j = 5 ∨ j = 6 by omega) with rfl | rfl | rfl | rfl | rfl | rfl | rfl <;> rfl) (Nat.le_of_ble_eq_true rfl) (Nat.le_of_ble_eq_true rfl) dX3_claim_28 (fun q28 H hP hD hS => ?_)
        have hP := hP.swap
        have hD := hD.swap
        have hP : va_P D vwCl (((cX cI cW cC ad st ln N fs fc hm se (nI k) (nI n)) ++ [(q28, .inr (0, [.int 0, .int 0, .int 0, .int 0, .int 0, .int 0, .int 0]))]) ++ va_pl PL pf) H := hP
        have hD : va_D A (((cX cI cW cC ad st ln N fs fc hm se (nI k) (nI n)) ++ [(q28, .inr (0, [.int 0, .int 0, .int 0, .int 0, .int 0, .int 0, .int 0]))]) ++ va_pl PL pf) := hD
        refine lv_dup hx hb dX3_claim_31 rfl ?_
        refine lv_iload_n hx hb dX3_claim_32 rfl (lv_at hl 1 rfl) ?_
        refine lv_iload_n hx hb dX3_claim_33 rfl (lv_at hl 2 rfl) ?_
        refine lv_iload_n hx hb dX3_claim_34 rfl (lv_at hl 3 rfl) ?_
        refine lv_iload hx hb dX3_claim_35 (lv_at hl 4 rfl) ?_
        refine lv_aload_n hx hb dX3_claim_37 rfl (lv_at hl 0 rfl) ?_
        refine zq_get hx hb hts in_X3_claim_X3 hown hK hP 0 rfl rfl 4 (by decide) (hts _ w_X3_claim__fieldLink_RX3_31_WordsBeside_kept_I__a1b92e) rfl dX3_claim_38 ?_
        refine zq_cI (rest := [.ref q28]) (X := [((ad 0), .inr (3, [.ref (ad 1), .ref (ad 4), .int se, .ref (ad 6), .int (nI k), .ref (ad 7), .int (nI n), .ref (ad 8)])), ((ad 1), .inr (1, [.ref (ad 2), .ref (ad 3)])), ((ad 2), .inl (cI, 72, .inl st)), ((ad 3), .inl (cI, 6, .inl ln)), ((ad 4), .inr (2, [.ref (ad 5)])), ((ad 5), .inl (cI, 1536, .inl N)), ((ad 6), .inl (cW, 31, .inr (.inr (.inr (.inr fs))))), ((ad 7), .inl (cC, 40, .inr (.inr (.inr (.inr fc))))), ((ad 8), .inl (cI, 40, .inl hm)), (q28, .inr (0, [.int 0, .int 0, .int 0, .int 0, .int 0, .int 0, .int 0]))]) (pl := va_pl PL pf) (wr := [((ad 0), .inr (3, [.ref (ad 1), .ref (ad 4), .int se, .ref (ad 6), .int (nI k), .ref (ad 7), .int (nI n), .ref (ad 8)])), ((ad 1), .inr (1, [.ref (ad 2), .ref (ad 3)])), ((ad 2), .inl (cI, 72, .inl st)), ((ad 3), .inl (cI, 6, .inl ln)), ((ad 4), .inr (2, [.ref (ad 5)])), ((ad 5), .inl (cI, 1536, .inl N)), ((ad 6), .inl (cW, 31, .inr (.inr (.inr (.inr fs))))), ((ad 7), .inl (cC, 40, .inr (.inr (.inr (.inr fc))))), ((ad 8), .inl (cI, 40, .inl hm))]) ⟨hx, hb, hml, hown, hts⟩ (c_X0_init l D cI cZ cW cC q28 (nI f) kd p1 q1 (nI k) _) (cwI 5 hts gX3_claim_X0_init rfl rfl rfl (hts _ w_X3_claim__initialized_RX0_644e73) (hts _ w_X3_claim__methodLink_RX3_103_yX0_init_504727) (hts _ w_X3_claim__instanceMethod_yX0_init_222f4c) rfl (by decide +kernel) ⟨Nat.le_of_ble_eq_true rfl, Nat.le_of_ble_eq_true rfl⟩) hK hP hD hS hA [9] [0, 1, 2, 3, 4, 5, 6, 7, 8] rfl rfl rfl rfl (by decide) rfl hl.1 rfl (Nat.le_of_ble_eq_true rfl) dX3_claim_41 ⟨Nat.le_of_ble_eq_true rfl, Nat.le_of_ble_eq_true rfl⟩ (fun v w1 H locs hv hP hD hS => ?_)
        obtain ⟨rfl, rfl⟩ := hv
        obtain ⟨hfr1, hP, hD⟩ := zpl_push1 (X := (cX cI cW cC ad st ln N fs fc hm se (nI k) (nI n))) (a := q28) (PL := PL) (pf := pf) (ea := .inr (0, [.int (nI f), .int kd, .int p1, .int q1, .int (nI k), .int (-1), .int 0])) hP hD
        obtain ⟨PL2, ePL2⟩ : ∃ z, z = PL ++ [q28] := ⟨_, rfl⟩
        obtain ⟨pf41, epf41⟩ : ∃ z, z = va_up pf q28 (.inr (0, [.int (nI f), .int kd, .int p1, .int q1, .int (nI k), .int (-1), .int 0])) := ⟨_, rfl⟩
        rw [← ePL2, ← epf41] at hP hD
        have hw2 : q28 ∈ PL2 := by rw [ePL2]; simp
        have ew2 : pf41 q28 = .inr (0, [.int (nI f), .int kd, .int p1, .int q1, .int (nI k), .int (-1), .int 0]) := by rw [epf41, va_up_self]
        have hmo : ∀ a, a ∈ PL → a ∈ PL2 ∧ pf41 a = pf a := fun a ha => ⟨by rw [ePL2]; exact List.mem_append_left _ ha, by rw [epf41, va_up_ne _ _ (fun z : a = q28 => hfr1 (z ▸ ha))]⟩
        have HW2 := zPW_mono HW hmo
        have HC2 := zPC_mono HC hmo
        have hP : va_P D vwCl ((cX cI cW cC ad st ln N fs fc hm se (nI k) (nI n)) ++ va_pl PL2 pf41) H := hP
        have hD : va_D A ((cX cI cW cC ad st ln N fs fc hm se (nI k) (nI n)) ++ va_pl PL2 pf41) := hD
        refine W.eq (g2 := F0 m 44 ls [.ref q28]) rfl ?_
        refine lv_astore (lv' := [(5, .ref q28), (0, .ref (ad 0)), (1, .int (nI f)), (2, .int kd), (3, .int p1), (4, .int q1)]) hx hb dX3_claim_44 hl (by decide) rfl (fun ls hl => ?_)
        refine lv_aload hx hb dX3_claim_46 (lv_at hl 0 rfl) ?_
        refine lv_aload_n hx hb dX3_claim_48 rfl (lv_at hl 1 rfl) ?_
        refine lv_aload hx hb dX3_claim_49 (lv_at hl 0 rfl) ?_
        refine zq_cV (rest := [.ref q28]) ⟨hx, hb, hml, hown, hts⟩ (c_X3_lastKeptHolding l D cI cZ cW cC ad st ln N fs fc hm se (nI k) (nI n) PL2 pf41 k hk rfl wo go Gs HW2 q28 f k hf (Nat.le_refl k) kd p1 q1 (-1) 0 hw2 ew2) (cwV 1 hts gX3_claim_X3_lastKeptHolding rfl rfl rfl (by decide +kernel) ⟨Nat.le_of_ble_eq_true rfl, Nat.le_of_ble_eq_true rfl⟩) hK hP 3 0 rfl rfl rfl hl.1 rfl (Nat.le_of_ble_eq_true rfl) dX3_claim_51 ⟨Nat.le_of_ble_eq_true rfl, Nat.le_of_ble_eq_true rfl⟩ (fun v hv => ?_)
        obtain rfl := hv
        refine W.eq (g2 := F0 m 54 ls [.int (zlk (fun t => zheld (zden (Gs t) f kd p1 q1)) k (k + 1)), .ref q28]) rfl ?_
        obtain ⟨kq, hq⟩ := zpl_at (X := (cX cI cW cC ad st ln N fs fc hm se (nI k) (nI n))) hw2 ew2
        have eset := zpl_set (e := .inr (0, [.int (nI f), .int kd, .int p1, .int q1, .int (nI k), .int (zlk (fun t => zheld (zden (Gs t) f kd p1 q1)) k (k + 1)), .int 0])) hD hw2 ew2 hq
        refine zq_put hx hb hts in_X3_claim_X0 tyX0 tyX0_ok nmX0 hown hK hP hD hS kq hq rfl 5 (by decide) (hts _ w_X3_claim__fieldLink_RX3_92_WordsBeside_Claim_lastHeld_I__f6b92d) rfl rfl rfl (Nat.le_of_ble_eq_true rfl) dX3_claim_54 (fun H locs hP hD hS => ?_)
        obtain ⟨pf54, epf54⟩ : ∃ z, z = va_up pf41 q28 (.inr (0, [.int (nI f), .int kd, .int p1, .int q1, .int (nI k), .int (zlk (fun t => zheld (zden (Gs t) f kd p1 q1)) k (k + 1)), .int 0])) := ⟨_, rfl⟩
        rw [← epf54] at eset
        have hP : va_P D vwCl ((cX cI cW cC ad st ln N fs fc hm se (nI k) (nI n)) ++ va_pl PL2 pf54) H := by rw [← eset]; exact hP
        have hD : va_D A ((cX cI cW cC ad st ln N fs fc hm se (nI k) (nI n)) ++ va_pl PL2 pf54) := by rw [← eset]; exact hD
        have ew3 : pf54 q28 = .inr (0, [.int (nI f), .int kd, .int p1, .int q1, .int (nI k), .int (zlk (fun t => zheld (zden (Gs t) f kd p1 q1)) k (k + 1)), .int 0]) := by rw [epf54, va_up_self]
        have HW3 : zPW cI PL2 pf54 fs wo go Gs k := by rw [epf54]; exact zPW_up HW2 ew2
        have HC3 : zPC PL2 pf54 fc co fo bo kF fF sF lh mF n := zPC_mono (PL := PL) HC (fun a ha => ⟨(hmo a ha).1, by rw [epf54, va_up_ne _ _ (fun z : a = q28 => hfr1 (z ▸ ha))]; exact (hmo a ha).2⟩)
        have HC4 := zPC_add HC3 hw2 (fun i hi z => hfr1 (z ▸ (HC.1 i hi).2.1)) ew3
        refine lv_aload_n hx hb dX3_claim_57 rfl (lv_at hl 1 rfl) ?_
        refine zq_get hx hb hts in_X3_claim_X3 hown hK hP 0 rfl rfl 5 (by decide) (hts _ w_X3_claim__fieldLink_RX3_36_WordsBeside_claims_LWordsBeside_Claim__842a06) rfl dX3_claim_58 ?_
        refine lv_aload_n hx hb dX3_claim_61 rfl (lv_at hl 1 rfl) ?_
        refine zq_get hx hb hts in_X3_claim_X3 hown hK hP 0 rfl rfl 6 (by decide) (hts _ w_X3_claim__fieldLink_RX3_40_WordsBeside_came_I__48f8c3) rfl dX3_claim_62 ?_
        refine lv_aload hx hb dX3_claim_65 (lv_at hl 0 rfl) ?_
        obtain ⟨kq, hq⟩ := zpl_at (X := (cX cI cW cC ad st ln N fs fc hm se (nI k) (nI n))) hw2 ew3
        refine zq_astC hx hb hK hP hD hS 7 kq rfl hq n rfl (by omega) (by decide) dX3_claim_67 (fun H locs hP hD hS => ?_)
        have hP : va_P D vwCl ((cX cI cW cC ad st ln N fs (va_up fc n (some q28)) hm se (nI k) (nI n)) ++ va_pl PL2 pf54) H := hP
        have hD : va_D A ((cX cI cW cC ad st ln N fs (va_up fc n (some q28)) hm se (nI k) (nI n)) ++ va_pl PL2 pf54) := hD
        refine lv_aload_n hx hb dX3_claim_68 rfl (lv_at hl 1 rfl) ?_
        refine lv_dup hx hb dX3_claim_69 rfl ?_
        refine zq_get hx hb hts in_X3_claim_X3 hown hK hP 0 rfl rfl 6 (by decide) (hts _ w_X3_claim__fieldLink_RX3_40_WordsBeside_came_I__48f8c3) rfl dX3_claim_70 ?_
        refine lv_iconst (v := (nI 1)) hx hb dX3_claim_73 (by decide) ?_
        refine lv_iadd hx hb dX3_claim_74 ?_
        refine zq_te (y := (nI (n + 1))) (nI_add _ _) ?_
        refine zq_put hx hb hts in_X3_claim_X3 tyX3 tyX3_ok nmX3 hown hK hP hD hS 0 rfl rfl 6 (by decide) (hts _ w_X3_claim__fieldLink_RX3_40_WordsBeside_came_I__48f8c3) rfl rfl rfl (Nat.le_of_ble_eq_true rfl) dX3_claim_75 (fun H locs hP hD hS => ?_)
        have hP : va_P D vwCl ((cX cI cW cC ad st ln N fs (va_up fc n (some q28)) hm se (nI k) (nI (n + 1))) ++ va_pl PL2 pf54) H := hP
        have hD : va_D A ((cX cI cW cC ad st ln N fs (va_up fc n (some q28)) hm se (nI k) (nI (n + 1))) ++ va_pl PL2 pf54) := hD
        refine lv_aload_n hx hb dX3_claim_78 rfl (lv_at hl 1 rfl) ?_
        refine zq_get hx hb hts in_X3_claim_X3 hown hK hP 0 rfl rfl 6 (by decide) (hts _ w_X3_claim__fieldLink_RX3_40_WordsBeside_came_I__48f8c3) rfl dX3_claim_79 ?_
        refine lv_iconst (v := (nI 1)) hx hb dX3_claim_82 (by decide) ?_
        refine lv_isub hx hb dX3_claim_83 ?_
        refine zq_te (y := (nI n)) (pk_sub (by omega)) ?_
        refine W.widen (k := 1) (n := 7) (by omega) (by omega) ?_
        exact ret _ _ _ _ _ _ (by exact Or.inl ⟨f, hf, rfl, hyk, by omega, rfl, PL2, pf54, q28, rfl, HW3, HC4⟩) hP hD hS dX3_claim_84
      · refine W.eq (g2 := F0 m 23 ls [.int (0 : Int32)]) rfl ?_
        refine lv_if_ne (tgt := 28) hx hb dX3_claim_23 (by decide) (fun c23 => absurd c23 (by decide)) (fun c23 => ?_)
        refine lv_iconst (v := (-1 : Int32)) hx hb dX3_claim_26 (by decide) ?_
        refine W.widen (k := 1) (n := 7) (by omega) (by omega) ?_
        exact ret _ _ _ _ _ _ (by exact Or.inr ⟨fun q => hyk q.2.1, rfl, rfl⟩) hP hD hS dX3_claim_27
    · refine W.eq (g2 := F0 m 13 ls [.int (0 : Int32)]) rfl ?_
      refine lv_if_eq (tgt := 26) hx hb dX3_claim_13 (by decide) (fun c13 => ?_) (fun c13 => absurd c13 (by decide))
      refine lv_iconst (v := (-1 : Int32)) hx hb dX3_claim_26 (by decide) ?_
      refine W.widen (k := 1) (n := 7) (by omega) (by omega) ?_
      exact ret _ _ _ _ _ _ (by exact Or.inr ⟨fun q => hyf q.1, rfl, rfl⟩) hP hD hS dX3_claim_27
theorem w_X3_init__arrayClass_int_d160d5 : (.arrayClass .int : Cond) ∈ wsX3_init := by decide +kernel
theorem w_X3_init__classLink_RX3_16_RX2_37db54 : (.classLink RX3 16 RX2 : Cond) ∈ wsX3_init := by decide +kernel
theorem w_X3_init__classLink_RX3_34_RX0_0c487f : (.classLink RX3 34 RX0 : Cond) ∈ wsX3_init := by decide +kernel
theorem w_X3_init__classLink_RX3_9_RX1_2c4db2 : (.classLink RX3 9 RX1 : Cond) ∈ wsX3_init := by decide +kernel
theorem w_X3_init__code_objectInit_0xb1_1_none_9febdb : (.code objectInit ⟨#[0xb1]⟩ 1 none : Cond) ∈ wsX3_init := by decide +kernel
theorem w_X3_init__fieldLink_RX3_12_WordsBeside_code_LWordsBeside_Code__2ab9f4 : (.fieldLink RX3 12 "WordsBeside" "code" "LWordsBeside$Code;" : Cond) ∈ wsX3_init := by decide +kernel
theorem w_X3_init__fieldLink_RX3_19_WordsBeside_now_LWordsBeside_World__4a21dc : (.fieldLink RX3 19 "WordsBeside" "now" "LWordsBeside$World;" : Cond) ∈ wsX3_init := by decide +kernel
theorem w_X3_init__fieldLink_RX3_23_WordsBeside_settled_I__4ff7c2 : (.fieldLink RX3 23 "WordsBeside" "settled" "I" : Cond) ∈ wsX3_init := by decide +kernel
theorem w_X3_init__fieldLink_RX3_27_WordsBeside_states_LWordsBeside_World__935a9c : (.fieldLink RX3 27 "WordsBeside" "states" "[LWordsBeside$World;" : Cond) ∈ wsX3_init := by decide +kernel
theorem w_X3_init__fieldLink_RX3_31_WordsBeside_kept_I__a1b92e : (.fieldLink RX3 31 "WordsBeside" "kept" "I" : Cond) ∈ wsX3_init := by decide +kernel
theorem w_X3_init__fieldLink_RX3_36_WordsBeside_claims_LWordsBeside_Claim__842a06 : (.fieldLink RX3 36 "WordsBeside" "claims" "[LWordsBeside$Claim;" : Cond) ∈ wsX3_init := by decide +kernel
theorem w_X3_init__fieldLink_RX3_40_WordsBeside_came_I__48f8c3 : (.fieldLink RX3 40 "WordsBeside" "came" "I" : Cond) ∈ wsX3_init := by decide +kernel
theorem w_X3_init__fieldLink_RX3_43_WordsBeside_listedHarms_I__517f26 : (.fieldLink RX3 43 "WordsBeside" "listedHarms" "[I" : Cond) ∈ wsX3_init := by decide +kernel
theorem w_X3_init__initialized_RX1_df4c49 : (.initialized RX1 : Cond) ∈ wsX3_init := by decide +kernel
theorem w_X3_init__initialized_RX2_aeeb22 : (.initialized RX2 : Cond) ∈ wsX3_init := by decide +kernel
theorem w_X3_init__instanceMethod_objectInit_fba9d5 : (.instanceMethod objectInit : Cond) ∈ wsX3_init := by decide +kernel
theorem w_X3_init__instanceMethod_yX1_init_892477 : (.instanceMethod yX1_init : Cond) ∈ wsX3_init := by decide +kernel
theorem w_X3_init__instanceMethod_yX2_init_ec8cce : (.instanceMethod yX2_init : Cond) ∈ wsX3_init := by decide +kernel
theorem w_X3_init__instantiable_RX1_2_f33203 : (.instantiable RX1 2 : Cond) ∈ wsX3_init := by decide +kernel
theorem w_X3_init__instantiable_RX2_1_ac440c : (.instantiable RX2 1 : Cond) ∈ wsX3_init := by decide +kernel
theorem w_X3_init__methodLink_RX3_11_yX1_init_5bfc89 : (.methodLink RX3 11 yX1_init : Cond) ∈ wsX3_init := by decide +kernel
theorem w_X3_init__methodLink_RX3_18_yX2_init_a1e8b4 : (.methodLink RX3 18 yX2_init : Cond) ∈ wsX3_init := by decide +kernel
theorem w_X3_init__methodLink_RX3_3_objectInit_975228 : (.methodLink RX3 3 objectInit : Cond) ∈ wsX3_init := by decide +kernel
theorem in_X3_init_X1 : ∀ w ∈ wsX10, w ∈ wsX3_init := fun _ h => List.mem_cons_of_mem _ (List.mem_append_left _ (List.mem_append_left _ (List.mem_append_right _ h)))
theorem in_X3_init_X2 : ∀ w ∈ wsX20, w ∈ wsX3_init := fun _ h => List.mem_cons_of_mem _ (List.mem_append_right _ h)
theorem in_X3_init_X3 : ∀ w ∈ wsX30, w ∈ wsX3_init := fun _ h => List.mem_cons_of_mem _ (List.mem_append_left _ (List.mem_append_right _ h))
set_option maxHeartbeats 4000000 in
set_option maxRecDepth 100000 in
theorem c_X3_init (l : Launch) (D : va_G) (cI cZ cW cC : ClassId) (oo : Nat) (sz : Nat) : zq_mu l D cI cZ cW cC yX3_init wsX3_init ({ frames := 2, cells := 10, slots := 3265, locals := 41 } : Room) [.ref oo] [(oo, .inr (3, [.null, .null, .int 0, .null, .int 0, .null, .int 0, .null]))] sz (fun v w1 => v = none ∧ ∃ (ad : Nat → Nat) (PL : List Nat) (pf : Nat → va_E) (fs fc : Nat → Option Nat) (wo go : Nat → Nat), ad 0 = oo ∧ w1 = (cX cI cW cC ad (fun _ => 0) (fun _ => 0) (fun _ => 0) fs fc (fun _ => 0) (nI 6) 0 0 ++ va_pl PL pf) ∧ zPW cI PL pf fs wo go (fun _ _ => 0) 0) 10 3265 := by
  refine zq_muV (own := RX3) (by decide) rfl rfl (Nat.le_of_ble_eq_true rfl) ?_
  intro p e s m below meth c Q A ls hsz hF hin hA hP hK hD hS hl ret
  obtain ⟨hx, hb, hml, hown, hts⟩ := hF
  have hl : lv_has ls 1 [(0, .ref oo)] := hl
  refine lv_aload_n hx hb dX3_init_0 rfl (lv_at hl 0 rfl) ?_
  refine W.objInit hx hb hown (hts _ w_X3_init__methodLink_RX3_3_objectInit_975228) (hts _ w_X3_init__instanceMethod_objectInit_fba9d5) (hts _ w_X3_init__code_objectInit_0xb1_1_none_9febdb) rfl (by rw [hml]; exact hl.1) rfl dX3_init_1 (Nat.le_of_ble_eq_true rfl) (Nat.le_of_ble_eq_true rfl) ?_
  refine W.eq (g2 := F0 m 4 ls []) rfl ?_
  refine lv_aload_n hx hb dX3_init_4 rfl (lv_at hl 0 rfl) ?_
  refine va_new (ci := 1) (fs := [.null, .null]) (C := RX1) (T := TX1) (N := 2) hx hb hts in_X3_init_X1 tyX1 tyX1_ok hown (hts _ w_X3_init__classLink_RX3_9_RX1_2c4db2) (hts _ w_X3_init__instantiable_RX1_2_f33203) (hts _ w_X3_init__initialized_RX1_df4c49) hK.1 hP hD hS hA rfl (fun j hj => by rcases (show j = 0 ∨ j = 1 by omega) with rfl | rfl <;> rfl) (Nat.le_of_ble_eq_true rfl) (Nat.le_of_ble_eq_true rfl) dX3_init_5 (fun q5 H hP hD hS => ?_)
  have hP : va_P D vwCl [(oo, .inr (3, [.null, .null, .int 0, .null, .int 0, .null, .int 0, .null])), (q5, .inr (1, [.null, .null]))] H := hP
  have hD : va_D A [(oo, .inr (3, [.null, .null, .int 0, .null, .int 0, .null, .int 0, .null])), (q5, .inr (1, [.null, .null]))] := hD
  refine lv_dup hx hb dX3_init_8 rfl ?_
  refine zq_cI (rest := [.ref q5, .ref oo]) (X := [(oo, .inr (3, [.null, .null, .int 0, .null, .int 0, .null, .int 0, .null])), (q5, .inr (1, [.null, .null]))]) (pl := []) (wr := [(oo, .inr (3, [.null, .null, .int 0, .null, .int 0, .null, .int 0, .null]))]) ⟨hx, hb, hml, hown, hts⟩ (c_X1_init l D cI cZ cW cC q5 _) (cwI 0 hts gX3_init_X1_init rfl rfl rfl (hts _ w_X3_init__initialized_RX1_df4c49) (hts _ w_X3_init__methodLink_RX3_11_yX1_init_5bfc89) (hts _ w_X3_init__instanceMethod_yX1_init_892477) rfl (by decide +kernel) ⟨Nat.le_of_ble_eq_true rfl, Nat.le_of_ble_eq_true rfl⟩) hK hP hD hS hA [1] [0] rfl rfl rfl rfl (by decide) rfl hl.1 rfl (Nat.le_of_ble_eq_true rfl) dX3_init_9 ⟨Nat.le_of_ble_eq_true rfl, Nat.le_of_ble_eq_true rfl⟩ (fun v w1 H locs hv hP hD hS => ?_)
  obtain ⟨rfl, s5, l5, rfl⟩ := hv
  have hP : va_P D vwCl [(oo, .inr (3, [.null, .null, .int 0, .null, .int 0, .null, .int 0, .null])), (q5, .inr (1, [.ref s5, .ref l5])), (s5, .inl (cI, 72, .inl (fun _ => 0))), (l5, .inl (cI, 6, .inl (fun _ => 0)))] H := hP
  have hD : va_D A [(oo, .inr (3, [.null, .null, .int 0, .null, .int 0, .null, .int 0, .null])), (q5, .inr (1, [.ref s5, .ref l5])), (s5, .inl (cI, 72, .inl (fun _ => 0))), (l5, .inl (cI, 6, .inl (fun _ => 0)))] := hD
  refine W.eq (g2 := F0 m 12 ls [.ref q5, .ref oo]) rfl ?_
  refine zq_putF hx hb hts in_X3_init_X3 tyX3 tyX3_ok nmX3 hown hK hP hD hS 0 rfl rfl 0 (by decide) (hts _ w_X3_init__fieldLink_RX3_12_WordsBeside_code_LWordsBeside_Code__2ab9f4) rfl hin rfl rfl rfl (Nat.le_of_ble_eq_true rfl) dX3_init_12 (fun H locs hP hD hS => ?_)
  have hP : va_P D vwCl [(oo, .inr (3, [.ref q5, .null, .int 0, .null, .int 0, .null, .int 0, .null])), (q5, .inr (1, [.ref s5, .ref l5])), (s5, .inl (cI, 72, .inl (fun _ => 0))), (l5, .inl (cI, 6, .inl (fun _ => 0)))] H := hP
  have hD : va_D A [(oo, .inr (3, [.ref q5, .null, .int 0, .null, .int 0, .null, .int 0, .null])), (q5, .inr (1, [.ref s5, .ref l5])), (s5, .inl (cI, 72, .inl (fun _ => 0))), (l5, .inl (cI, 6, .inl (fun _ => 0)))] := hD
  refine lv_aload_n hx hb dX3_init_15 rfl (lv_at hl 0 rfl) ?_
  refine va_new (ci := 2) (fs := [.null]) (C := RX2) (T := TX2) (N := 1) hx hb hts in_X3_init_X2 tyX2 tyX2_ok hown (hts _ w_X3_init__classLink_RX3_16_RX2_37db54) (hts _ w_X3_init__instantiable_RX2_1_ac440c) (hts _ w_X3_init__initialized_RX2_aeeb22) hK.1 hP hD hS hA rfl (fun j hj => by rcases (show j = 0 by omega) with rfl <;> rfl) (Nat.le_of_ble_eq_true rfl) (Nat.le_of_ble_eq_true rfl) dX3_init_16 (fun q16 H hP hD hS => ?_)
  have hP : va_P D vwCl [(oo, .inr (3, [.ref q5, .null, .int 0, .null, .int 0, .null, .int 0, .null])), (q5, .inr (1, [.ref s5, .ref l5])), (s5, .inl (cI, 72, .inl (fun _ => 0))), (l5, .inl (cI, 6, .inl (fun _ => 0))), (q16, .inr (2, [.null]))] H := hP
  have hD : va_D A [(oo, .inr (3, [.ref q5, .null, .int 0, .null, .int 0, .null, .int 0, .null])), (q5, .inr (1, [.ref s5, .ref l5])), (s5, .inl (cI, 72, .inl (fun _ => 0))), (l5, .inl (cI, 6, .inl (fun _ => 0))), (q16, .inr (2, [.null]))] := hD
  refine lv_dup hx hb dX3_init_19 rfl ?_
  refine zq_cI (rest := [.ref q16, .ref oo]) (X := [(oo, .inr (3, [.ref q5, .null, .int 0, .null, .int 0, .null, .int 0, .null])), (q5, .inr (1, [.ref s5, .ref l5])), (s5, .inl (cI, 72, .inl (fun _ => 0))), (l5, .inl (cI, 6, .inl (fun _ => 0))), (q16, .inr (2, [.null]))]) (pl := []) (wr := [(oo, .inr (3, [.ref q5, .null, .int 0, .null, .int 0, .null, .int 0, .null])), (q5, .inr (1, [.ref s5, .ref l5])), (s5, .inl (cI, 72, .inl (fun _ => 0))), (l5, .inl (cI, 6, .inl (fun _ => 0)))]) ⟨hx, hb, hml, hown, hts⟩ (c_X2_init l D cI cZ cW cC q16 _) (cwI 0 hts gX3_init_X2_init rfl rfl rfl (hts _ w_X3_init__initialized_RX2_aeeb22) (hts _ w_X3_init__methodLink_RX3_18_yX2_init_a1e8b4) (hts _ w_X3_init__instanceMethod_yX2_init_ec8cce) rfl (by decide +kernel) ⟨Nat.le_of_ble_eq_true rfl, Nat.le_of_ble_eq_true rfl⟩) hK hP hD hS hA [4] [0, 1, 2, 3] rfl rfl rfl rfl (by decide) rfl hl.1 rfl (Nat.le_of_ble_eq_true rfl) dX3_init_20 ⟨Nat.le_of_ble_eq_true rfl, Nat.le_of_ble_eq_true rfl⟩ (fun v w1 H locs hv hP hD hS => ?_)
  obtain ⟨rfl, g16, rfl⟩ := hv
  have hP : va_P D vwCl [(oo, .inr (3, [.ref q5, .null, .int 0, .null, .int 0, .null, .int 0, .null])), (q5, .inr (1, [.ref s5, .ref l5])), (s5, .inl (cI, 72, .inl (fun _ => 0))), (l5, .inl (cI, 6, .inl (fun _ => 0))), (q16, .inr (2, [.ref g16])), (g16, .inl (cI, 1536, .inl (fun _ => 0)))] H := hP
  have hD : va_D A [(oo, .inr (3, [.ref q5, .null, .int 0, .null, .int 0, .null, .int 0, .null])), (q5, .inr (1, [.ref s5, .ref l5])), (s5, .inl (cI, 72, .inl (fun _ => 0))), (l5, .inl (cI, 6, .inl (fun _ => 0))), (q16, .inr (2, [.ref g16])), (g16, .inl (cI, 1536, .inl (fun _ => 0)))] := hD
  refine W.eq (g2 := F0 m 23 ls [.ref q16, .ref oo]) rfl ?_
  refine zq_putF hx hb hts in_X3_init_X3 tyX3 tyX3_ok nmX3 hown hK hP hD hS 0 rfl rfl 1 (by decide) (hts _ w_X3_init__fieldLink_RX3_19_WordsBeside_now_LWordsBeside_World__4a21dc) rfl hin rfl rfl rfl (Nat.le_of_ble_eq_true rfl) dX3_init_23 (fun H locs hP hD hS => ?_)
  have hP : va_P D vwCl [(oo, .inr (3, [.ref q5, .ref q16, .int 0, .null, .int 0, .null, .int 0, .null])), (q5, .inr (1, [.ref s5, .ref l5])), (s5, .inl (cI, 72, .inl (fun _ => 0))), (l5, .inl (cI, 6, .inl (fun _ => 0))), (q16, .inr (2, [.ref g16])), (g16, .inl (cI, 1536, .inl (fun _ => 0)))] H := hP
  have hD : va_D A [(oo, .inr (3, [.ref q5, .ref q16, .int 0, .null, .int 0, .null, .int 0, .null])), (q5, .inr (1, [.ref s5, .ref l5])), (s5, .inl (cI, 72, .inl (fun _ => 0))), (l5, .inl (cI, 6, .inl (fun _ => 0))), (q16, .inr (2, [.ref g16])), (g16, .inl (cI, 1536, .inl (fun _ => 0)))] := hD
  refine lv_aload_n hx hb dX3_init_26 rfl (lv_at hl 0 rfl) ?_
  refine lv_bipush (v := (nI 6)) hx hb dX3_init_27 (by decide) ?_
  refine zq_put hx hb hts in_X3_init_X3 tyX3 tyX3_ok nmX3 hown hK hP hD hS 0 rfl rfl 2 (by decide) (hts _ w_X3_init__fieldLink_RX3_23_WordsBeside_settled_I__4ff7c2) rfl rfl rfl (Nat.le_of_ble_eq_true rfl) dX3_init_29 (fun H locs hP hD hS => ?_)
  have hP : va_P D vwCl [(oo, .inr (3, [.ref q5, .ref q16, .int (nI 6), .null, .int 0, .null, .int 0, .null])), (q5, .inr (1, [.ref s5, .ref l5])), (s5, .inl (cI, 72, .inl (fun _ => 0))), (l5, .inl (cI, 6, .inl (fun _ => 0))), (q16, .inr (2, [.ref g16])), (g16, .inl (cI, 1536, .inl (fun _ => 0)))] H := hP
  have hD : va_D A [(oo, .inr (3, [.ref q5, .ref q16, .int (nI 6), .null, .int 0, .null, .int 0, .null])), (q5, .inr (1, [.ref s5, .ref l5])), (s5, .inl (cI, 72, .inl (fun _ => 0))), (l5, .inl (cI, 6, .inl (fun _ => 0))), (q16, .inr (2, [.ref g16])), (g16, .inl (cI, 1536, .inl (fun _ => 0)))] := hD
  refine lv_aload_n hx hb dX3_init_32 rfl (lv_at hl 0 rfl) ?_
  refine lv_bipush (v := (nI 31)) hx hb dX3_init_33 (by decide) ?_
  refine zq_newW hx hb hown (hts _ w_X3_init__classLink_RX3_16_RX2_37db54) hK hP hD hS hA 31 rfl (by decide) (Nat.le_of_ble_eq_true rfl) (Nat.le_of_ble_eq_true rfl) dX3_init_35 (fun q35 H hP hD hS => ?_)
  have hP : va_P D vwCl [(oo, .inr (3, [.ref q5, .ref q16, .int (nI 6), .null, .int 0, .null, .int 0, .null])), (q5, .inr (1, [.ref s5, .ref l5])), (s5, .inl (cI, 72, .inl (fun _ => 0))), (l5, .inl (cI, 6, .inl (fun _ => 0))), (q16, .inr (2, [.ref g16])), (g16, .inl (cI, 1536, .inl (fun _ => 0))), (q35, .inl (cW, 31, .inr (.inr (.inr (.inr (fun _ => none))))))] H := hP
  have hD : va_D A [(oo, .inr (3, [.ref q5, .ref q16, .int (nI 6), .null, .int 0, .null, .int 0, .null])), (q5, .inr (1, [.ref s5, .ref l5])), (s5, .inl (cI, 72, .inl (fun _ => 0))), (l5, .inl (cI, 6, .inl (fun _ => 0))), (q16, .inr (2, [.ref g16])), (g16, .inl (cI, 1536, .inl (fun _ => 0))), (q35, .inl (cW, 31, .inr (.inr (.inr (.inr (fun _ => none))))))] := hD
  refine zq_putF hx hb hts in_X3_init_X3 tyX3 tyX3_ok nmX3 hown hK hP hD hS 0 rfl rfl 3 (by decide) (hts _ w_X3_init__fieldLink_RX3_27_WordsBeside_states_LWordsBeside_World__935a9c) rfl hin rfl rfl rfl (Nat.le_of_ble_eq_true rfl) dX3_init_38 (fun H locs hP hD hS => ?_)
  have hP : va_P D vwCl [(oo, .inr (3, [.ref q5, .ref q16, .int (nI 6), .ref q35, .int 0, .null, .int 0, .null])), (q5, .inr (1, [.ref s5, .ref l5])), (s5, .inl (cI, 72, .inl (fun _ => 0))), (l5, .inl (cI, 6, .inl (fun _ => 0))), (q16, .inr (2, [.ref g16])), (g16, .inl (cI, 1536, .inl (fun _ => 0))), (q35, .inl (cW, 31, .inr (.inr (.inr (.inr (fun _ => none))))))] H := hP
  have hD : va_D A [(oo, .inr (3, [.ref q5, .ref q16, .int (nI 6), .ref q35, .int 0, .null, .int 0, .null])), (q5, .inr (1, [.ref s5, .ref l5])), (s5, .inl (cI, 72, .inl (fun _ => 0))), (l5, .inl (cI, 6, .inl (fun _ => 0))), (q16, .inr (2, [.ref g16])), (g16, .inl (cI, 1536, .inl (fun _ => 0))), (q35, .inl (cW, 31, .inr (.inr (.inr (.inr (fun _ => none))))))] := hD
  refine lv_aload_n hx hb dX3_init_41 rfl (lv_at hl 0 rfl) ?_
  refine zq_get hx hb hts in_X3_init_X3 hown hK hP 0 rfl rfl 3 (by decide) (hts _ w_X3_init__fieldLink_RX3_27_WordsBeside_states_LWordsBeside_World__935a9c) rfl dX3_init_42 ?_
  refine lv_iconst (v := (nI 0)) hx hb dX3_init_45 (by decide) ?_
  refine va_new (ci := 2) (fs := [.null]) (C := RX2) (T := TX2) (N := 1) hx hb hts in_X3_init_X2 tyX2 tyX2_ok hown (hts _ w_X3_init__classLink_RX3_16_RX2_37db54) (hts _ w_X3_init__instantiable_RX2_1_ac440c) (hts _ w_X3_init__initialized_RX2_aeeb22) hK.1 hP hD hS hA rfl (fun j hj => by rcases (show j = 0 by omega) with rfl <;> rfl) (Nat.le_of_ble_eq_true rfl) (Nat.le_of_ble_eq_true rfl) dX3_init_46 (fun q46 H hP hD hS => ?_)
  have hP : va_P D vwCl [(oo, .inr (3, [.ref q5, .ref q16, .int (nI 6), .ref q35, .int 0, .null, .int 0, .null])), (q5, .inr (1, [.ref s5, .ref l5])), (s5, .inl (cI, 72, .inl (fun _ => 0))), (l5, .inl (cI, 6, .inl (fun _ => 0))), (q16, .inr (2, [.ref g16])), (g16, .inl (cI, 1536, .inl (fun _ => 0))), (q35, .inl (cW, 31, .inr (.inr (.inr (.inr (fun _ => none)))))), (q46, .inr (2, [.null]))] H := hP
  have hD : va_D A [(oo, .inr (3, [.ref q5, .ref q16, .int (nI 6), .ref q35, .int 0, .null, .int 0, .null])), (q5, .inr (1, [.ref s5, .ref l5])), (s5, .inl (cI, 72, .inl (fun _ => 0))), (l5, .inl (cI, 6, .inl (fun _ => 0))), (q16, .inr (2, [.ref g16])), (g16, .inl (cI, 1536, .inl (fun _ => 0))), (q35, .inl (cW, 31, .inr (.inr (.inr (.inr (fun _ => none)))))), (q46, .inr (2, [.null]))] := hD
  refine lv_dup hx hb dX3_init_49 rfl ?_
  refine zq_cI (rest := [.ref q46, .int (nI 0), .ref q35]) (X := [(oo, .inr (3, [.ref q5, .ref q16, .int (nI 6), .ref q35, .int 0, .null, .int 0, .null])), (q5, .inr (1, [.ref s5, .ref l5])), (s5, .inl (cI, 72, .inl (fun _ => 0))), (l5, .inl (cI, 6, .inl (fun _ => 0))), (q16, .inr (2, [.ref g16])), (g16, .inl (cI, 1536, .inl (fun _ => 0))), (q35, .inl (cW, 31, .inr (.inr (.inr (.inr (fun _ => none)))))), (q46, .inr (2, [.null]))]) (pl := []) (wr := [(oo, .inr (3, [.ref q5, .ref q16, .int (nI 6), .ref q35, .int 0, .null, .int 0, .null])), (q5, .inr (1, [.ref s5, .ref l5])), (s5, .inl (cI, 72, .inl (fun _ => 0))), (l5, .inl (cI, 6, .inl (fun _ => 0))), (q16, .inr (2, [.ref g16])), (g16, .inl (cI, 1536, .inl (fun _ => 0))), (q35, .inl (cW, 31, .inr (.inr (.inr (.inr (fun _ => none))))))]) ⟨hx, hb, hml, hown, hts⟩ (c_X2_init l D cI cZ cW cC q46 _) (cwI 0 hts gX3_init_X2_init rfl rfl rfl (hts _ w_X3_init__initialized_RX2_aeeb22) (hts _ w_X3_init__methodLink_RX3_18_yX2_init_a1e8b4) (hts _ w_X3_init__instanceMethod_yX2_init_ec8cce) rfl (by decide +kernel) ⟨Nat.le_of_ble_eq_true rfl, Nat.le_of_ble_eq_true rfl⟩) hK hP hD hS hA [7] [0, 1, 2, 3, 4, 5, 6] rfl rfl rfl rfl (by decide) rfl hl.1 rfl (Nat.le_of_ble_eq_true rfl) dX3_init_50 ⟨Nat.le_of_ble_eq_true rfl, Nat.le_of_ble_eq_true rfl⟩ (fun v w1 H locs hv hP hD hS => ?_)
  obtain ⟨rfl, g46, rfl⟩ := hv
  have hP : va_P D vwCl [(oo, .inr (3, [.ref q5, .ref q16, .int (nI 6), .ref q35, .int 0, .null, .int 0, .null])), (q5, .inr (1, [.ref s5, .ref l5])), (s5, .inl (cI, 72, .inl (fun _ => 0))), (l5, .inl (cI, 6, .inl (fun _ => 0))), (q16, .inr (2, [.ref g16])), (g16, .inl (cI, 1536, .inl (fun _ => 0))), (q35, .inl (cW, 31, .inr (.inr (.inr (.inr (fun _ => none)))))), (q46, .inr (2, [.ref g46])), (g46, .inl (cI, 1536, .inl (fun _ => 0)))] H := hP
  have hD : va_D A [(oo, .inr (3, [.ref q5, .ref q16, .int (nI 6), .ref q35, .int 0, .null, .int 0, .null])), (q5, .inr (1, [.ref s5, .ref l5])), (s5, .inl (cI, 72, .inl (fun _ => 0))), (l5, .inl (cI, 6, .inl (fun _ => 0))), (q16, .inr (2, [.ref g16])), (g16, .inl (cI, 1536, .inl (fun _ => 0))), (q35, .inl (cW, 31, .inr (.inr (.inr (.inr (fun _ => none)))))), (q46, .inr (2, [.ref g46])), (g46, .inl (cI, 1536, .inl (fun _ => 0)))] := hD
  refine W.eq (g2 := F0 m 53 ls [.ref q46, .int (nI 0), .ref q35]) rfl ?_
  refine zq_astW hx hb hK hP hD hS 6 7 rfl rfl 0 rfl (by omega) (by decide) dX3_init_53 (fun H locs hP hD hS => ?_)
  have hP : va_P D vwCl [(oo, .inr (3, [.ref q5, .ref q16, .int (nI 6), .ref q35, .int 0, .null, .int 0, .null])), (q5, .inr (1, [.ref s5, .ref l5])), (s5, .inl (cI, 72, .inl (fun _ => 0))), (l5, .inl (cI, 6, .inl (fun _ => 0))), (q16, .inr (2, [.ref g16])), (g16, .inl (cI, 1536, .inl (fun _ => 0))), (q35, .inl (cW, 31, .inr (.inr (.inr (.inr (va_up (fun _ => none) 0 (some q46))))))), (q46, .inr (2, [.ref g46])), (g46, .inl (cI, 1536, .inl (fun _ => 0)))] H := hP
  have hD : va_D A [(oo, .inr (3, [.ref q5, .ref q16, .int (nI 6), .ref q35, .int 0, .null, .int 0, .null])), (q5, .inr (1, [.ref s5, .ref l5])), (s5, .inl (cI, 72, .inl (fun _ => 0))), (l5, .inl (cI, 6, .inl (fun _ => 0))), (q16, .inr (2, [.ref g16])), (g16, .inl (cI, 1536, .inl (fun _ => 0))), (q35, .inl (cW, 31, .inr (.inr (.inr (.inr (va_up (fun _ => none) 0 (some q46))))))), (q46, .inr (2, [.ref g46])), (g46, .inl (cI, 1536, .inl (fun _ => 0)))] := hD
  refine lv_aload_n hx hb dX3_init_54 rfl (lv_at hl 0 rfl) ?_
  refine lv_iconst (v := (0 : Int32)) hx hb dX3_init_55 (by decide) ?_
  refine zq_put hx hb hts in_X3_init_X3 tyX3 tyX3_ok nmX3 hown hK hP hD hS 0 rfl rfl 4 (by decide) (hts _ w_X3_init__fieldLink_RX3_31_WordsBeside_kept_I__a1b92e) rfl rfl rfl (Nat.le_of_ble_eq_true rfl) dX3_init_56 (fun H locs hP hD hS => ?_)
  have hP : va_P D vwCl [(oo, .inr (3, [.ref q5, .ref q16, .int (nI 6), .ref q35, .int (0 : Int32), .null, .int 0, .null])), (q5, .inr (1, [.ref s5, .ref l5])), (s5, .inl (cI, 72, .inl (fun _ => 0))), (l5, .inl (cI, 6, .inl (fun _ => 0))), (q16, .inr (2, [.ref g16])), (g16, .inl (cI, 1536, .inl (fun _ => 0))), (q35, .inl (cW, 31, .inr (.inr (.inr (.inr (va_up (fun _ => none) 0 (some q46))))))), (q46, .inr (2, [.ref g46])), (g46, .inl (cI, 1536, .inl (fun _ => 0)))] H := hP
  have hD : va_D A [(oo, .inr (3, [.ref q5, .ref q16, .int (nI 6), .ref q35, .int (0 : Int32), .null, .int 0, .null])), (q5, .inr (1, [.ref s5, .ref l5])), (s5, .inl (cI, 72, .inl (fun _ => 0))), (l5, .inl (cI, 6, .inl (fun _ => 0))), (q16, .inr (2, [.ref g16])), (g16, .inl (cI, 1536, .inl (fun _ => 0))), (q35, .inl (cW, 31, .inr (.inr (.inr (.inr (va_up (fun _ => none) 0 (some q46))))))), (q46, .inr (2, [.ref g46])), (g46, .inl (cI, 1536, .inl (fun _ => 0)))] := hD
  refine lv_aload_n hx hb dX3_init_59 rfl (lv_at hl 0 rfl) ?_
  refine lv_bipush (v := (nI 40)) hx hb dX3_init_60 (by decide) ?_
  refine zq_newC hx hb hown (hts _ w_X3_init__classLink_RX3_34_RX0_0c487f) hK hP hD hS hA 40 rfl (by decide) (Nat.le_of_ble_eq_true rfl) (Nat.le_of_ble_eq_true rfl) dX3_init_62 (fun q62 H hP hD hS => ?_)
  have hP : va_P D vwCl [(oo, .inr (3, [.ref q5, .ref q16, .int (nI 6), .ref q35, .int (0 : Int32), .null, .int 0, .null])), (q5, .inr (1, [.ref s5, .ref l5])), (s5, .inl (cI, 72, .inl (fun _ => 0))), (l5, .inl (cI, 6, .inl (fun _ => 0))), (q16, .inr (2, [.ref g16])), (g16, .inl (cI, 1536, .inl (fun _ => 0))), (q35, .inl (cW, 31, .inr (.inr (.inr (.inr (va_up (fun _ => none) 0 (some q46))))))), (q46, .inr (2, [.ref g46])), (g46, .inl (cI, 1536, .inl (fun _ => 0))), (q62, .inl (cC, 40, .inr (.inr (.inr (.inr (fun _ => none))))))] H := hP
  have hD : va_D A [(oo, .inr (3, [.ref q5, .ref q16, .int (nI 6), .ref q35, .int (0 : Int32), .null, .int 0, .null])), (q5, .inr (1, [.ref s5, .ref l5])), (s5, .inl (cI, 72, .inl (fun _ => 0))), (l5, .inl (cI, 6, .inl (fun _ => 0))), (q16, .inr (2, [.ref g16])), (g16, .inl (cI, 1536, .inl (fun _ => 0))), (q35, .inl (cW, 31, .inr (.inr (.inr (.inr (va_up (fun _ => none) 0 (some q46))))))), (q46, .inr (2, [.ref g46])), (g46, .inl (cI, 1536, .inl (fun _ => 0))), (q62, .inl (cC, 40, .inr (.inr (.inr (.inr (fun _ => none))))))] := hD
  refine zq_putF hx hb hts in_X3_init_X3 tyX3 tyX3_ok nmX3 hown hK hP hD hS 0 rfl rfl 5 (by decide) (hts _ w_X3_init__fieldLink_RX3_36_WordsBeside_claims_LWordsBeside_Claim__842a06) rfl hin rfl rfl rfl (Nat.le_of_ble_eq_true rfl) dX3_init_65 (fun H locs hP hD hS => ?_)
  have hP : va_P D vwCl [(oo, .inr (3, [.ref q5, .ref q16, .int (nI 6), .ref q35, .int (0 : Int32), .ref q62, .int 0, .null])), (q5, .inr (1, [.ref s5, .ref l5])), (s5, .inl (cI, 72, .inl (fun _ => 0))), (l5, .inl (cI, 6, .inl (fun _ => 0))), (q16, .inr (2, [.ref g16])), (g16, .inl (cI, 1536, .inl (fun _ => 0))), (q35, .inl (cW, 31, .inr (.inr (.inr (.inr (va_up (fun _ => none) 0 (some q46))))))), (q46, .inr (2, [.ref g46])), (g46, .inl (cI, 1536, .inl (fun _ => 0))), (q62, .inl (cC, 40, .inr (.inr (.inr (.inr (fun _ => none))))))] H := hP
  have hD : va_D A [(oo, .inr (3, [.ref q5, .ref q16, .int (nI 6), .ref q35, .int (0 : Int32), .ref q62, .int 0, .null])), (q5, .inr (1, [.ref s5, .ref l5])), (s5, .inl (cI, 72, .inl (fun _ => 0))), (l5, .inl (cI, 6, .inl (fun _ => 0))), (q16, .inr (2, [.ref g16])), (g16, .inl (cI, 1536, .inl (fun _ => 0))), (q35, .inl (cW, 31, .inr (.inr (.inr (.inr (va_up (fun _ => none) 0 (some q46))))))), (q46, .inr (2, [.ref g46])), (g46, .inl (cI, 1536, .inl (fun _ => 0))), (q62, .inl (cC, 40, .inr (.inr (.inr (.inr (fun _ => none))))))] := hD
  refine lv_aload_n hx hb dX3_init_68 rfl (lv_at hl 0 rfl) ?_
  refine lv_iconst (v := (0 : Int32)) hx hb dX3_init_69 (by decide) ?_
  refine zq_put hx hb hts in_X3_init_X3 tyX3 tyX3_ok nmX3 hown hK hP hD hS 0 rfl rfl 6 (by decide) (hts _ w_X3_init__fieldLink_RX3_40_WordsBeside_came_I__48f8c3) rfl rfl rfl (Nat.le_of_ble_eq_true rfl) dX3_init_70 (fun H locs hP hD hS => ?_)
  have hP : va_P D vwCl [(oo, .inr (3, [.ref q5, .ref q16, .int (nI 6), .ref q35, .int (0 : Int32), .ref q62, .int (0 : Int32), .null])), (q5, .inr (1, [.ref s5, .ref l5])), (s5, .inl (cI, 72, .inl (fun _ => 0))), (l5, .inl (cI, 6, .inl (fun _ => 0))), (q16, .inr (2, [.ref g16])), (g16, .inl (cI, 1536, .inl (fun _ => 0))), (q35, .inl (cW, 31, .inr (.inr (.inr (.inr (va_up (fun _ => none) 0 (some q46))))))), (q46, .inr (2, [.ref g46])), (g46, .inl (cI, 1536, .inl (fun _ => 0))), (q62, .inl (cC, 40, .inr (.inr (.inr (.inr (fun _ => none))))))] H := hP
  have hD : va_D A [(oo, .inr (3, [.ref q5, .ref q16, .int (nI 6), .ref q35, .int (0 : Int32), .ref q62, .int (0 : Int32), .null])), (q5, .inr (1, [.ref s5, .ref l5])), (s5, .inl (cI, 72, .inl (fun _ => 0))), (l5, .inl (cI, 6, .inl (fun _ => 0))), (q16, .inr (2, [.ref g16])), (g16, .inl (cI, 1536, .inl (fun _ => 0))), (q35, .inl (cW, 31, .inr (.inr (.inr (.inr (va_up (fun _ => none) 0 (some q46))))))), (q46, .inr (2, [.ref g46])), (g46, .inl (cI, 1536, .inl (fun _ => 0))), (q62, .inl (cC, 40, .inr (.inr (.inr (.inr (fun _ => none))))))] := hD
  refine lv_aload_n hx hb dX3_init_73 rfl (lv_at hl 0 rfl) ?_
  refine lv_bipush (v := (nI 40)) hx hb dX3_init_74 (by decide) ?_
  refine zq_newi hx hb (hts _ w_X3_init__arrayClass_int_d160d5) hK hP hD hS hA 40 rfl (by decide) (Nat.le_of_ble_eq_true rfl) (Nat.le_of_ble_eq_true rfl) dX3_init_76 (fun q76 H hP hD hS => ?_)
  have hP : va_P D vwCl [(oo, .inr (3, [.ref q5, .ref q16, .int (nI 6), .ref q35, .int (0 : Int32), .ref q62, .int (0 : Int32), .null])), (q5, .inr (1, [.ref s5, .ref l5])), (s5, .inl (cI, 72, .inl (fun _ => 0))), (l5, .inl (cI, 6, .inl (fun _ => 0))), (q16, .inr (2, [.ref g16])), (g16, .inl (cI, 1536, .inl (fun _ => 0))), (q35, .inl (cW, 31, .inr (.inr (.inr (.inr (va_up (fun _ => none) 0 (some q46))))))), (q46, .inr (2, [.ref g46])), (g46, .inl (cI, 1536, .inl (fun _ => 0))), (q62, .inl (cC, 40, .inr (.inr (.inr (.inr (fun _ => none)))))), (q76, .inl (cI, 40, .inl (fun _ => 0)))] H := hP
  have hD : va_D A [(oo, .inr (3, [.ref q5, .ref q16, .int (nI 6), .ref q35, .int (0 : Int32), .ref q62, .int (0 : Int32), .null])), (q5, .inr (1, [.ref s5, .ref l5])), (s5, .inl (cI, 72, .inl (fun _ => 0))), (l5, .inl (cI, 6, .inl (fun _ => 0))), (q16, .inr (2, [.ref g16])), (g16, .inl (cI, 1536, .inl (fun _ => 0))), (q35, .inl (cW, 31, .inr (.inr (.inr (.inr (va_up (fun _ => none) 0 (some q46))))))), (q46, .inr (2, [.ref g46])), (g46, .inl (cI, 1536, .inl (fun _ => 0))), (q62, .inl (cC, 40, .inr (.inr (.inr (.inr (fun _ => none)))))), (q76, .inl (cI, 40, .inl (fun _ => 0)))] := hD
  refine zq_putF hx hb hts in_X3_init_X3 tyX3 tyX3_ok nmX3 hown hK hP hD hS 0 rfl rfl 7 (by decide) (hts _ w_X3_init__fieldLink_RX3_43_WordsBeside_listedHarms_I__517f26) rfl hin rfl rfl rfl (Nat.le_of_ble_eq_true rfl) dX3_init_78 (fun H locs hP hD hS => ?_)
  have hP : va_P D vwCl [(oo, .inr (3, [.ref q5, .ref q16, .int (nI 6), .ref q35, .int (0 : Int32), .ref q62, .int (0 : Int32), .ref q76])), (q5, .inr (1, [.ref s5, .ref l5])), (s5, .inl (cI, 72, .inl (fun _ => 0))), (l5, .inl (cI, 6, .inl (fun _ => 0))), (q16, .inr (2, [.ref g16])), (g16, .inl (cI, 1536, .inl (fun _ => 0))), (q35, .inl (cW, 31, .inr (.inr (.inr (.inr (va_up (fun _ => none) 0 (some q46))))))), (q46, .inr (2, [.ref g46])), (g46, .inl (cI, 1536, .inl (fun _ => 0))), (q62, .inl (cC, 40, .inr (.inr (.inr (.inr (fun _ => none)))))), (q76, .inl (cI, 40, .inl (fun _ => 0)))] H := hP
  have hD : va_D A [(oo, .inr (3, [.ref q5, .ref q16, .int (nI 6), .ref q35, .int (0 : Int32), .ref q62, .int (0 : Int32), .ref q76])), (q5, .inr (1, [.ref s5, .ref l5])), (s5, .inl (cI, 72, .inl (fun _ => 0))), (l5, .inl (cI, 6, .inl (fun _ => 0))), (q16, .inr (2, [.ref g16])), (g16, .inl (cI, 1536, .inl (fun _ => 0))), (q35, .inl (cW, 31, .inr (.inr (.inr (.inr (va_up (fun _ => none) 0 (some q46))))))), (q46, .inr (2, [.ref g46])), (g46, .inl (cI, 1536, .inl (fun _ => 0))), (q62, .inl (cC, 40, .inr (.inr (.inr (.inr (fun _ => none)))))), (q76, .inl (cI, 40, .inl (fun _ => 0)))] := hD
  have hX := zq_reP (cx := ((cX cI cW cC (fun i => [oo, q5, s5, l5, q16, g16, q35, q62, q76].getD i 0) (fun _ => 0) (fun _ => 0) (fun _ => 0) (va_up (fun _ => none) 0 (some q46)) (fun _ => none) (fun _ => 0) (nI 6) 0 0) ++ [(q46, .inr (2, [.ref g46])), (g46, .inl (cI, 1536, .inl (fun _ => 0)))])) (pl := []) [0, 1, 2, 3, 4, 5, 6, 9, 10, 7, 8] rfl (by decide) (by rw [List.append_nil]; exact hP) (by rw [List.append_nil]; exact hD)
  obtain ⟨hfr1, hfr2, hfr3, hP, hD⟩ := zpl_push2 (X := (cX cI cW cC (fun i => [oo, q5, s5, l5, q16, g16, q35, q62, q76].getD i 0) (fun _ => 0) (fun _ => 0) (fun _ => 0) (va_up (fun _ => none) 0 (some q46)) (fun _ => none) (fun _ => 0) (nI 6) 0 0)) (PL := []) (pf := fun _ => .inr (0, [])) (a := q46) (b := g46) hX.1 hX.2
  exact ret _ _ _ _ _ (by exact ⟨rfl, (fun i => [oo, q5, s5, l5, q16, g16, q35, q62, q76].getD i 0), [q46, g46], _, (va_up (fun _ => none) 0 (some q46)), (fun _ => none), (fun _ => q46), (fun _ => g46), rfl, rfl, fun t ht => by rw [show t = 0 by omega]; exact ⟨va_up_self _ _ _, by simp, by rw [va_up_ne _ _ hfr3, va_up_self], by simp, by rw [va_up_self]⟩⟩) hP hD hS dX3_init_81
