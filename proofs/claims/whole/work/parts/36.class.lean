/-! WordsBeside: mark, mended: what is written into the pool -/
theorem zpl_set {A : Nat → Prop} {X : va_W} {PL : List Nat} {pf : Nat → va_E} {a q : Nat} {e0 e : va_E} (hD : va_D A (X ++ va_pl PL pf)) (h : a ∈ PL) (he : pf a = e0) (hq : (X ++ va_pl PL pf)[q]? = some (a, e0)) : (X ++ va_pl PL pf).set q (a, e) = X ++ va_pl PL (va_up pf a e) := va_pl_set hD h (by rw [hq, he])
theorem zPC_up {PL : List Nat} {pf pf2 : Nat → va_E} {fc : Nat → Option Nat} {co fo bo : Nat → Nat} {kF fF sF lh mF fF2 sF2 lh2 mF2 : Nat → Int32} {n i : Nat} (HC : zPC PL pf fc co fo bo kF fF sF lh mF n) (hi : i < n)
    (e : pf2 = va_up pf (co i) (.inr (0, [.int (nI (fo i)), .int (kF i), .int (fF2 i), .int (sF2 i), .int (nI (bo i)), .int (lh2 i), .int (mF2 i)])))
    (h1 : ∀ q, q ≠ i → fF2 q = fF q) (h2 : ∀ q, q ≠ i → sF2 q = sF q) (h3 : ∀ q, q ≠ i → lh2 q = lh q) (h4 : ∀ q, q ≠ i → mF2 q = mF q) : zPC PL pf2 fc co fo bo kF fF2 sF2 lh2 mF2 n := by
  refine ⟨fun q hq => ?_, HC.2⟩
  obtain ⟨a1, a2, a3⟩ := HC.1 q hq
  refine ⟨a1, a2, ?_⟩
  by_cases eq : q = i
  · subst eq
    rw [e, va_up_self]
  · have hne : co q ≠ co i := fun z => eq (HC.2 q i hq hi z)
    rw [e, va_up_ne _ _ hne, a3, h1 q eq, h2 q eq, h3 q eq, h4 q eq]
theorem zPW_up {cI : ClassId} {PL : List Nat} {pf : Nat → va_E} {fs : Nat → Option Nat} {wo go : Nat → Nat} {Gs : Nat → Nat → Int32} {k a : Nat} {vs vs2 : List Value} (HW : zPW cI PL pf fs wo go Gs k) (ha : pf a = .inr (0, vs)) : zPW cI PL (va_up pf a (.inr (0, vs2))) fs wo go Gs k := by
  intro t ht
  obtain ⟨b1, b2, b3, b4, b5⟩ := HW t ht
  have h1 : wo t ≠ a := fun z => by
    rw [z, ha] at b3
    cases b3
  have h2 : go t ≠ a := fun z => by
    rw [z, ha] at b5
    cases b5
  exact ⟨b1, b2, by rw [va_up_ne _ _ h1]; exact b3, b4, by rw [va_up_ne _ _ h2]; exact b5⟩

theorem w_X3_mark__fieldLink_RX3_134_WordsBeside_Claim_marked_Z__c3d21a : (.fieldLink RX3 134 "WordsBeside$Claim" "marked" "Z" : Cond) ∈ wsX3_mark := by decide +kernel
theorem in_X3_mark_X0 : ∀ w ∈ wsX00, w ∈ wsX3_mark := fun _ h => List.mem_cons_of_mem _ (List.mem_append_left _ (List.mem_append_right _ h))
set_option maxHeartbeats 4000000 in
set_option maxRecDepth 100000 in
theorem c_X3_mark (l : Launch) (D : va_G) (cI cZ cW cC : ClassId) (ad : Nat → Nat) (st ln N : Nat → Int32) (fs fc : Nat → Option Nat) (hm : Nat → Int32) (se kp cm : Int32) (PL : List Nat) (pf : Nat → va_E) (k : Nat) (hk : k ≤ 30) (ek : kp = nI k) (wo go : Nat → Nat) (Gs : Nat → Nat → Int32) (HW : zPW cI PL pf fs wo go Gs k) (n : Nat) (hn : n ≤ 40) (en : cm = nI n) (co fo bo : Nat → Nat) (kF fF sF lh mF : Nat → Int32) (HC : zPC PL pf fc co fo bo kF fF sF lh mF n) (cl : Int32) (sz : Nat) : zq_mu l D cI cZ cW cC yX3_mark wsX3_mark ({ frames := 1, cells := 0, slots := 0, locals := 21 } : Room) [.ref (ad 0), .int cl] ((cX cI cW cC ad st ln N fs fc hm se kp cm) ++ va_pl PL pf) sz (fun v w1 => (∃ i, i < n ∧ cl = nI i ∧ mF i = 0 ∧ v = some (.int 1) ∧ ∃ pf2 : Nat → va_E, w1 = ((cX cI cW cC ad st ln N fs fc hm se kp cm) ++ va_pl PL pf2) ∧ zPW cI PL pf2 fs wo go Gs k ∧ zPC PL pf2 fc co fo bo kF fF sF lh (upd mF i 1) n) ∨ (¬ (∃ i, i < n ∧ cl = nI i ∧ mF i = 0) ∧ v = some (.int 0) ∧ w1 = ((cX cI cW cC ad st ln N fs fc hm se kp cm) ++ va_pl PL pf))) 0 0 := by
  refine zq_muZ (own := RX3) (by decide) rfl rfl (Nat.le_of_ble_eq_true rfl) ?_
  intro p e s m below meth c Q A ls hsz hF hin hA hP hK hD hS hl ret
  obtain ⟨hx, hb, hml, hown, hts⟩ := hF
  have hl : lv_has ls 3 [(0, .ref (ad 0)), (1, .int cl)] := hl
  refine lv_aload_n hx hb dX3_mark_0 rfl (lv_at hl 0 rfl) ?_
  refine lv_iload_n hx hb dX3_mark_1 rfl (lv_at hl 1 rfl) ?_
  refine zq_cV (rest := []) ⟨hx, hb, hml, hown, hts⟩ (c_X3_claimAt l D cI cZ cW cC ad st ln N fs fc hm se kp cm PL pf n hn en co fo bo kF fF sF lh mF HC cl) (cwV 1 hts gX3_mark_X3_claimAt rfl rfl rfl (by decide +kernel) ⟨Nat.le_of_ble_eq_true rfl, Nat.le_of_ble_eq_true rfl⟩) hK hP 3 0 rfl rfl rfl hl.1 rfl (Nat.le_of_ble_eq_true rfl) dX3_mark_2 ⟨Nat.le_of_ble_eq_true rfl, Nat.le_of_ble_eq_true rfl⟩ (fun v hv => ?_)
  rcases hv with ⟨i, hi, rfl, rfl⟩ | ⟨hyc, rfl⟩
  · refine W.eq (g2 := F0 m 5 ls [.ref (co i)]) rfl ?_
    refine lv_astore_n (lv' := [(2, .ref (co i)), (0, .ref (ad 0)), (1, .int (nI i))]) hx hb dX3_mark_5 rfl hl (by decide) rfl (fun ls hl => ?_)
    refine lv_aload_n hx hb dX3_mark_6 rfl (lv_at hl 0 rfl) ?_
    refine lv_ifnull hx hb dX3_mark_7 ?_
    refine lv_aload_n hx hb dX3_mark_10 rfl (lv_at hl 0 rfl) ?_
    obtain ⟨kq, hq⟩ := zpl_at (X := (cX cI cW cC ad st ln N fs fc hm se kp cm)) (HC.1 i hi).2.1 (HC.1 i hi).2.2
    refine zq_get hx hb hts in_X3_mark_X0 hown hK hP kq hq rfl 6 (by decide) (hts _ w_X3_mark__fieldLink_RX3_134_WordsBeside_Claim_marked_Z__c3d21a) rfl dX3_mark_11 ?_
    refine lv_if_eq (tgt := 19) hx hb dX3_mark_14 (by decide) (fun c14 => ?_) (fun c14 => ?_)
    · refine lv_aload_n hx hb dX3_mark_19 rfl (lv_at hl 0 rfl) ?_
      refine lv_iconst (v := (1 : Int32)) hx hb dX3_mark_20 (by decide) ?_
      obtain ⟨kq, hq⟩ := zpl_at (X := (cX cI cW cC ad st ln N fs fc hm se kp cm)) (HC.1 i hi).2.1 (HC.1 i hi).2.2
      have eset := zpl_set (e := .inr (0, [.int (nI (fo i)), .int (kF i), .int (fF i), .int (sF i), .int (nI (bo i)), .int (lh i), .int (1 : Int32)])) hD (HC.1 i hi).2.1 (HC.1 i hi).2.2 hq
      refine zq_put hx hb hts in_X3_mark_X0 tyX0 tyX0_ok nmX0 hown hK hP hD hS kq hq rfl 6 (by decide) (hts _ w_X3_mark__fieldLink_RX3_134_WordsBeside_Claim_marked_Z__c3d21a) rfl rfl rfl (Nat.le_of_ble_eq_true rfl) dX3_mark_21 (fun H locs hP hD hS => ?_)
      obtain ⟨pf21, epf21⟩ : ∃ z, z = va_up pf (co i) (.inr (0, [.int (nI (fo i)), .int (kF i), .int (fF i), .int (sF i), .int (nI (bo i)), .int (lh i), .int (1 : Int32)])) := ⟨_, rfl⟩
      rw [← epf21] at eset
      have hP : va_P D vwCl ((cX cI cW cC ad st ln N fs fc hm se kp cm) ++ va_pl PL pf21) H := by rw [← eset]; exact hP
      have hD : va_D A ((cX cI cW cC ad st ln N fs fc hm se kp cm) ++ va_pl PL pf21) := by rw [← eset]; exact hD
      refine lv_iconst (v := (1 : Int32)) hx hb dX3_mark_24 (by decide) ?_
      exact ret _ _ _ _ _ _ (Or.inr rfl) (by exact Or.inl ⟨i, hi, rfl, c14, rfl, pf21, rfl, by rw [epf21]; exact zPW_up HW (HC.1 i hi).2.2, zPC_up HC hi (by rw [epf21, pk_us]) (fun _ _ => rfl) (fun _ _ => rfl) (fun _ _ => rfl) (fun q hq => pk_un hq)⟩) hP hD hS dX3_mark_25
    · refine lv_iconst (v := (0 : Int32)) hx hb dX3_mark_17 (by decide) ?_
      exact ret _ _ _ _ _ _ (Or.inl rfl) (by exact Or.inr ⟨(fun ⟨j, hj, e, h⟩ => by have e2 := zeq e; subst e2; exact c14 h), rfl, rfl⟩) hP hD hS dX3_mark_18
  · refine W.eq (g2 := F0 m 5 ls [.null]) rfl ?_
    refine lv_astore_nN (lv' := [(2, .null), (0, .ref (ad 0)), (1, .int cl)]) hx hb dX3_mark_5 rfl hl (by decide) rfl (fun ls hl => ?_)
    refine lv_aload_nN hx hb dX3_mark_6 rfl (lv_at hl 0 rfl) ?_
    refine lv_ifnullN (tgt := 17) hx hb dX3_mark_7 (by decide) ?_
    refine lv_iconst (v := (0 : Int32)) hx hb dX3_mark_17 (by decide) ?_
    exact ret _ _ _ _ _ _ (Or.inl rfl) (by exact Or.inr ⟨(fun ⟨j, hj, e, h⟩ => hyc ⟨j, hj, e⟩), rfl, rfl⟩) hP hD hS dX3_mark_18
theorem w_X3_mended__constant_RX3_99_2147483648__ebb59d : (.constant RX3 99 (-2147483648) : Cond) ∈ wsX3_mended := by decide +kernel
theorem w_X3_mended__fieldLink_RX3_121_WordsBeside_Claim_kind_I__be85f9 : (.fieldLink RX3 121 "WordsBeside$Claim" "kind" "I" : Cond) ∈ wsX3_mended := by decide +kernel
theorem w_X3_mended__fieldLink_RX3_124_WordsBeside_Claim_p_I__13cf07 : (.fieldLink RX3 124 "WordsBeside$Claim" "p" "I" : Cond) ∈ wsX3_mended := by decide +kernel
theorem w_X3_mended__fieldLink_RX3_127_WordsBeside_Claim_q_I__34e6aa : (.fieldLink RX3 127 "WordsBeside$Claim" "q" "I" : Cond) ∈ wsX3_mended := by decide +kernel
theorem w_X3_mended__fieldLink_RX3_92_WordsBeside_Claim_lastHeld_I__f6b92d : (.fieldLink RX3 92 "WordsBeside$Claim" "lastHeld" "I" : Cond) ∈ wsX3_mended := by decide +kernel
theorem in_X3_mended_X0 : ∀ w ∈ wsX00, w ∈ wsX3_mended := fun _ h => List.mem_cons_of_mem _ (List.mem_append_left _ (List.mem_append_left _ (List.mem_append_left _ (List.mem_append_right _ h))))
set_option maxHeartbeats 4000000 in
set_option maxRecDepth 100000 in
theorem c_X3_mended (l : Launch) (D : va_G) (cI cZ cW cC : ClassId) (ad : Nat → Nat) (st ln N : Nat → Int32) (fs fc : Nat → Option Nat) (hm : Nat → Int32) (se kp cm : Int32) (PL : List Nat) (pf : Nat → va_E) (sn : Nat) (hsn : sn ≤ 6) (es : se = nI sn) (L : Nat → Nat) (HL : zHL ln L) (HV : ∀ f, f < 6 → zvs st f (L f)) (hOK : zOK st L N sn) (Gt : Nat → Int32) (hGt : zOK st L Gt 6) (k : Nat) (hk : k ≤ 30) (ek : kp = nI k) (wo go : Nat → Nat) (Gs : Nat → Nat → Int32) (HW : zPW cI PL pf fs wo go Gs k) (n : Nat) (hn : n ≤ 40) (en : cm = nI n) (co fo bo : Nat → Nat) (kF fF sF lh mF : Nat → Int32) (HC : zPC PL pf fc co fo bo kF fF sF lh mF n) (hfo : ∀ i, i < n → fo i < 6) (h5 : ∀ i, i < n → kF i = 5 → zr 256 (fF i)) (hbk : ∀ i, i < n → bo i ≤ k) (cl : Int32) (sz : Nat) : zq_mu l D cI cZ cW cC yX3_mended wsX3_mended ({ frames := 6, cells := 0, slots := 0, locals := 140 } : Room) [.ref (ad 0), .int cl] ((cX cI cW cC ad st ln N fs fc hm se kp cm) ++ va_pl PL pf) sz (fun v w1 => (∃ i, zmo Gt fo kF fF sF n cl i ∧ v = some (.int 1) ∧ ∃ (pf2 : Nat → va_E) (N3 : Nat → Int32) (sn3 : Nat), w1 = ((cX cI cW cC ad st ln N3 fs fc hm (nI sn3) kp cm) ++ va_pl PL pf2) ∧ sn3 ≤ 6 ∧ zOK st L N3 sn3 ∧ zPW cI PL pf2 fs wo go Gs k ∧ zPC PL pf2 fc co fo bo kF (zfF fF kF i (zm1 Gt (fo i) (kF i) (fF i))) (zsF sF kF i (zm1 Gt (fo i) (kF i) (fF i)) (zmst Gt (fo i) 256)) (upd lh i (zlk (fun t => zheld (zdn (Gs t) fo kF (zfF fF kF i (zm1 Gt (fo i) (kF i) (fF i))) (zsF sF kF i (zm1 Gt (fo i) (kF i) (fF i)) (zmst Gt (fo i) 256)) i)) (bo i) (k + 1))) mF n) ∨ (¬ (∃ i, zmo Gt fo kF fF sF n cl i) ∧ v = some (.int 0) ∧ ∃ (N3 : Nat → Int32) (sn3 : Nat), w1 = ((cX cI cW cC ad st ln N3 fs fc hm (nI sn3) kp cm) ++ va_pl PL pf) ∧ sn3 ≤ 6 ∧ zOK st L N3 sn3)) 0 0 := by
  refine zq_muZ (own := RX3) (by decide) rfl rfl (Nat.le_of_ble_eq_true rfl) ?_
  intro p e s m below meth c Q A ls hsz hF hin hA hP hK hD hS hl ret
  obtain ⟨hx, hb, hml, hown, hts⟩ := hF
  have hl : lv_has ls 4 [(0, .ref (ad 0)), (1, .int cl)] := hl
  subst es
  refine lv_aload_n hx hb dX3_mended_0 rfl (lv_at hl 0 rfl) ?_
  refine lv_iload_n hx hb dX3_mended_1 rfl (lv_at hl 1 rfl) ?_
  refine zq_cV (rest := []) ⟨hx, hb, hml, hown, hts⟩ (c_X3_claimAt l D cI cZ cW cC ad st ln N fs fc hm (nI sn) kp cm PL pf n hn en co fo bo kF fF sF lh mF HC cl) (cwV 1 hts gX3_mended_X3_claimAt rfl rfl rfl (by decide +kernel) ⟨Nat.le_of_ble_eq_true rfl, Nat.le_of_ble_eq_true rfl⟩) hK hP 3 0 rfl rfl rfl hl.1 rfl (Nat.le_of_ble_eq_true rfl) dX3_mended_2 ⟨Nat.le_of_ble_eq_true rfl, Nat.le_of_ble_eq_true rfl⟩ (fun v hv => ?_)
  rcases hv with ⟨i, hi, rfl, rfl⟩ | ⟨hyc, rfl⟩
  · refine W.eq (g2 := F0 m 5 ls [.ref (co i)]) rfl ?_
    have hfi := hfo i hi
    refine lv_astore_n (lv' := [(2, .ref (co i)), (0, .ref (ad 0)), (1, .int (nI i))]) hx hb dX3_mended_5 rfl hl (by decide) rfl (fun ls hl => ?_)
    refine lv_aload_n hx hb dX3_mended_6 rfl (lv_at hl 0 rfl) ?_
    refine lv_ifnull hx hb dX3_mended_7 ?_
    refine lv_aload_n hx hb dX3_mended_10 rfl (lv_at hl 0 rfl) ?_
    refine lv_aload_n hx hb dX3_mended_11 rfl (lv_at hl 1 rfl) ?_
    refine zq_cM (rest := [.ref (co i)]) ⟨hx, hb, hml, hown, hts⟩ (c_X3_present l D cI cZ cW cC ad st ln N fs fc hm (nI sn) kp cm PL pf L HL HV sn hsn rfl hOK _) (cwV 0 hts gX3_mended_X3_present rfl rfl rfl (by decide +kernel) ⟨Nat.le_of_ble_eq_true rfl, Nat.le_of_ble_eq_true rfl⟩) hK hP hD hS hA 3 0 rfl rfl rfl hl.1 rfl (Nat.le_of_ble_eq_true rfl) dX3_mended_12 ⟨Nat.le_of_ble_eq_true rfl, Nat.le_of_ble_eq_true rfl⟩ (fun v w1 H locs hv hP hD hS => ?_)
    obtain ⟨rfl, N2, rfl, hN2⟩ := hv
    have hP : va_P D vwCl ((cX cI cW cC ad st ln N2 fs fc hm (nI 6) kp cm) ++ va_pl PL pf) H := hP
    have hD : va_D A ((cX cI cW cC ad st ln N2 fs fc hm (nI 6) kp cm) ++ va_pl PL pf) := hD
    refine W.eq (g2 := F0 m 15 ls [.ref (ad 4), .ref (co i)]) rfl ?_
    have eN : ∀ j, j < 1536 → N2 j = Gt j := zOK_one (by omega) hN2 hGt HV
    refine zq_cV (rest := []) ⟨hx, hb, hml, hown, hts⟩ (c_X0_isHeldIn l D cI cZ cW cC (co i) (ad 4) (ad 5) N2 (fo i) hfi (kF i) (fF i) (sF i) (nI (bo i)) (lh i) (mF i)) (cwV 1 hts gX3_mended_X0_isHeldIn rfl rfl rfl (by decide +kernel) ⟨Nat.le_of_ble_eq_true rfl, Nat.le_of_ble_eq_true rfl⟩) hK (zP_3 (zP_pl hP (HC.1 i hi).2.1 (HC.1 i hi).2.2) (hP 4 _ rfl) (hP 5 _ rfl)) 0 0 rfl rfl rfl hl.1 rfl (Nat.le_of_ble_eq_true rfl) dX3_mended_15 ⟨Nat.le_of_ble_eq_true rfl, Nat.le_of_ble_eq_true rfl⟩ (fun v hv => ?_)
    obtain rfl := hv
    refine W.eq (g2 := F0 m 18 ls [.int (if zheld (zden N2 (fo i) (kF i) (fF i) (sF i)) then (1 : Int32) else 0)]) rfl ?_
    refine lv_if_eq (tgt := 23) hx hb dX3_mended_18 (by decide) (fun c18 => ?_) (fun c18 => ?_)
    · have hh : zheld (zdn Gt fo kF fF sF i) = false := by rw [zdn, ← zheld_cong eN hfi]; exact zct_bb c18
      refine lv_aload_n hx hb dX3_mended_23 rfl (lv_at hl 1 rfl) ?_
      refine lv_aload_n hx hb dX3_mended_24 rfl (lv_at hl 0 rfl) ?_
      refine zq_cM (rest := []) ⟨hx, hb, hml, hown, hts⟩ (c_X3_firstMend l D cI cZ cW cC ad st ln N2 fs fc hm (nI 6) kp cm PL pf 6 (by omega) rfl L HL HV hN2 Gt hGt n hn en co fo bo kF fF sF lh mF HC hfo h5 i hi _) (cwV 1 hts gX3_mended_X3_firstMend rfl rfl rfl (by decide +kernel) ⟨Nat.le_of_ble_eq_true rfl, Nat.le_of_ble_eq_true rfl⟩) hK hP hD hS hA 3 0 rfl rfl rfl hl.1 rfl (Nat.le_of_ble_eq_true rfl) dX3_mended_25 ⟨Nat.le_of_ble_eq_true rfl, Nat.le_of_ble_eq_true rfl⟩ (fun v w1 H locs hv hP hD hS => ?_)
      obtain ⟨rfl, N3, sn3, rfl, hs3, hO3⟩ := hv
      have hP : va_P D vwCl ((cX cI cW cC ad st ln N3 fs fc hm (nI sn3) kp cm) ++ va_pl PL pf) H := hP
      have hD : va_D A ((cX cI cW cC ad st ln N3 fs fc hm (nI sn3) kp cm) ++ va_pl PL pf) := hD
      refine W.eq (g2 := F0 m 28 ls [.int (zm1 Gt (fo i) (kF i) (fF i))]) rfl ?_
      refine lv_istore_n (lv' := [(3, .int (zm1 Gt (fo i) (kF i) (fF i))), (2, .ref (co i)), (0, .ref (ad 0)), (1, .int (nI i))]) hx hb dX3_mended_28 rfl hl (by decide) rfl (fun ls hl => ?_)
      refine lv_iload_n hx hb dX3_mended_29 rfl (lv_at hl 0 rfl) ?_
      refine lv_ldc (v := (-2147483648 : Int32)) hx hb hown (hts _ w_X3_mended__constant_RX3_99_2147483648__ebb59d) dX3_mended_30 ?_
      refine lv_icmp_ne (tgt := 37) hx hb dX3_mended_32 (by decide) (fun c32 => ?_) (fun c32 => ?_)
      · refine lv_aload_n hx hb dX3_mended_37 rfl (lv_at hl 1 rfl) ?_
        obtain ⟨kq, hq⟩ := zpl_at (X := (cX cI cW cC ad st ln N3 fs fc hm (nI sn3) kp cm)) (HC.1 i hi).2.1 (HC.1 i hi).2.2
        refine zq_get hx hb hts in_X3_mended_X0 hown hK hP kq hq rfl 1 (by decide) (hts _ w_X3_mended__fieldLink_RX3_121_WordsBeside_Claim_kind_I__be85f9) rfl dX3_mended_38 ?_
        refine lv_iconst (v := (5 : Int32)) hx hb dX3_mended_41 (by decide) ?_
        refine lv_icmp_ne (tgt := 53) hx hb dX3_mended_42 (by decide) (fun c42 => ?_) (fun c42 => ?_)
        · refine lv_aload_n hx hb dX3_mended_53 rfl (lv_at hl 1 rfl) ?_
          refine lv_iload_n hx hb dX3_mended_54 rfl (lv_at hl 0 rfl) ?_
          obtain ⟨kq, hq⟩ := zpl_at (X := (cX cI cW cC ad st ln N3 fs fc hm (nI sn3) kp cm)) (HC.1 i hi).2.1 (HC.1 i hi).2.2
          have eset := zpl_set (e := .inr (0, [.int (nI (fo i)), .int (kF i), .int (zm1 Gt (fo i) (kF i) (fF i)), .int (sF i), .int (nI (bo i)), .int (lh i), .int (mF i)])) hD (HC.1 i hi).2.1 (HC.1 i hi).2.2 hq
          refine zq_put hx hb hts in_X3_mended_X0 tyX0 tyX0_ok nmX0 hown hK hP hD hS kq hq rfl 2 (by decide) (hts _ w_X3_mended__fieldLink_RX3_124_WordsBeside_Claim_p_I__13cf07) rfl rfl rfl (Nat.le_of_ble_eq_true rfl) dX3_mended_55 (fun H locs hP hD hS => ?_)
          obtain ⟨pf55, epf55⟩ : ∃ z, z = va_up pf (co i) (.inr (0, [.int (nI (fo i)), .int (kF i), .int (zm1 Gt (fo i) (kF i) (fF i)), .int (sF i), .int (nI (bo i)), .int (lh i), .int (mF i)])) := ⟨_, rfl⟩
          rw [← epf55] at eset
          have hP : va_P D vwCl ((cX cI cW cC ad st ln N3 fs fc hm (nI sn3) kp cm) ++ va_pl PL pf55) H := by rw [← eset]; exact hP
          have hD : va_D A ((cX cI cW cC ad st ln N3 fs fc hm (nI sn3) kp cm) ++ va_pl PL pf55) := by rw [← eset]; exact hD
          have HC2 : zPC PL pf55 fc co fo bo kF (upd fF i (zm1 Gt (fo i) (kF i) (fF i))) sF lh mF n := zPC_up HC hi (by rw [epf55, pk_us]) (fun q hq => pk_un hq) (fun _ _ => rfl) (fun _ _ => rfl) (fun _ _ => rfl)
          have HW2 : zPW cI PL pf55 fs wo go Gs k := by rw [epf55]; exact zPW_up HW (HC.1 i hi).2.2
          refine lv_aload_n hx hb dX3_mended_58 rfl (lv_at hl 1 rfl) ?_
          obtain ⟨kq, hq⟩ := zpl_at (X := (cX cI cW cC ad st ln N3 fs fc hm (nI sn3) kp cm)) (HC2.1 i hi).2.1 (HC2.1 i hi).2.2
          refine zq_get hx hb hts in_X3_mended_X0 hown hK hP kq hq rfl 1 (by decide) (hts _ w_X3_mended__fieldLink_RX3_121_WordsBeside_Claim_kind_I__be85f9) rfl dX3_mended_59 ?_
          refine lv_if_ne (tgt := 74) hx hb dX3_mended_62 (by decide) (fun c62 => ?_) (fun c62 => ?_)
          · refine lv_aload_n hx hb dX3_mended_74 rfl (lv_at hl 1 rfl) ?_
            refine lv_aload_n hx hb dX3_mended_75 rfl (lv_at hl 2 rfl) ?_
            refine lv_aload_n hx hb dX3_mended_76 rfl (lv_at hl 1 rfl) ?_
            refine zq_cV (rest := [.ref (co i)]) ⟨hx, hb, hml, hown, hts⟩ (c_X3_lastKeptHolding l D cI cZ cW cC ad st ln N3 fs fc hm (nI sn3) kp cm PL pf55 k hk ek wo go Gs HW2 (co i) (fo i) (bo i) hfi (hbk i hi) (kF i) ((upd fF i (zm1 Gt (fo i) (kF i) (fF i))) i) (sF i) (lh i) (mF i) (HC2.1 i hi).2.1 (HC2.1 i hi).2.2) (cwV 1 hts gX3_mended_X3_lastKeptHolding rfl rfl rfl (by decide +kernel) ⟨Nat.le_of_ble_eq_true rfl, Nat.le_of_ble_eq_true rfl⟩) hK hP 3 0 rfl rfl rfl hl.1 rfl (Nat.le_of_ble_eq_true rfl) dX3_mended_77 ⟨Nat.le_of_ble_eq_true rfl, Nat.le_of_ble_eq_true rfl⟩ (fun v hv => ?_)
            obtain rfl := hv
            refine W.eq (g2 := F0 m 80 ls [.int (zlk (fun t => zheld (zden (Gs t) (fo i) (kF i) ((upd fF i (zm1 Gt (fo i) (kF i) (fF i))) i) (sF i))) (bo i) (k + 1)), .ref (co i)]) rfl ?_
            obtain ⟨kq, hq⟩ := zpl_at (X := (cX cI cW cC ad st ln N3 fs fc hm (nI sn3) kp cm)) (HC2.1 i hi).2.1 (HC2.1 i hi).2.2
            have eset := zpl_set (e := .inr (0, [.int (nI (fo i)), .int (kF i), .int ((upd fF i (zm1 Gt (fo i) (kF i) (fF i))) i), .int (sF i), .int (nI (bo i)), .int (zlk (fun t => zheld (zden (Gs t) (fo i) (kF i) ((upd fF i (zm1 Gt (fo i) (kF i) (fF i))) i) (sF i))) (bo i) (k + 1)), .int (mF i)])) hD (HC2.1 i hi).2.1 (HC2.1 i hi).2.2 hq
            refine zq_put hx hb hts in_X3_mended_X0 tyX0 tyX0_ok nmX0 hown hK hP hD hS kq hq rfl 5 (by decide) (hts _ w_X3_mended__fieldLink_RX3_92_WordsBeside_Claim_lastHeld_I__f6b92d) rfl rfl rfl (Nat.le_of_ble_eq_true rfl) dX3_mended_80 (fun H locs hP hD hS => ?_)
            obtain ⟨pf80, epf80⟩ : ∃ z, z = va_up pf55 (co i) (.inr (0, [.int (nI (fo i)), .int (kF i), .int ((upd fF i (zm1 Gt (fo i) (kF i) (fF i))) i), .int (sF i), .int (nI (bo i)), .int (zlk (fun t => zheld (zden (Gs t) (fo i) (kF i) ((upd fF i (zm1 Gt (fo i) (kF i) (fF i))) i) (sF i))) (bo i) (k + 1)), .int (mF i)])) := ⟨_, rfl⟩
            rw [← epf80] at eset
            have hP : va_P D vwCl ((cX cI cW cC ad st ln N3 fs fc hm (nI sn3) kp cm) ++ va_pl PL pf80) H := by rw [← eset]; exact hP
            have hD : va_D A ((cX cI cW cC ad st ln N3 fs fc hm (nI sn3) kp cm) ++ va_pl PL pf80) := by rw [← eset]; exact hD
            have HC4 : zPC PL pf80 fc co fo bo kF (upd fF i (zm1 Gt (fo i) (kF i) (fF i))) sF (upd lh i (zlk (fun t => zheld (zden (Gs t) (fo i) (kF i) ((upd fF i (zm1 Gt (fo i) (kF i) (fF i))) i) (sF i))) (bo i) (k + 1))) mF n := zPC_up HC2 hi (by rw [epf80]; simp only [pk_us]) (fun _ _ => rfl) (fun _ _ => rfl) (fun q hq => pk_un hq) (fun _ _ => rfl)
            have HW4 : zPW cI PL pf80 fs wo go Gs k := by rw [epf80]; exact zPW_up HW2 (HC2.1 i hi).2.2
            refine lv_iconst (v := (1 : Int32)) hx hb dX3_mended_83 (by decide) ?_
            exact ret _ _ _ _ _ _ (Or.inr rfl) (by exact Or.inl ⟨i, ⟨hi, rfl, hh, c32⟩, rfl, pf80, _, sn3, rfl, hs3, hO3, HW4, by rw [zfF, zsF, if_neg c42, if_neg c42, if_neg c62]; exact HC4⟩) hP hD hS dX3_mended_84
          · refine lv_aload_n hx hb dX3_mended_65 rfl (lv_at hl 1 rfl) ?_
            refine lv_aload_n hx hb dX3_mended_66 rfl (lv_at hl 2 rfl) ?_
            refine lv_aload_n hx hb dX3_mended_67 rfl (lv_at hl 1 rfl) ?_
            have h5b : ∀ q, q < n → kF q = 5 → zr 256 ((upd fF i (zm1 Gt (fo i) (kF i) (fF i))) q) := fun q hq h => by
              by_cases e : q = i
              · subst e; exact absurd (c62.symm.trans h) (by decide)
              · rw [pk_un e]; exact h5 q hq h
            refine zq_cM (rest := [.ref (co i)]) ⟨hx, hb, hml, hown, hts⟩ (c_X3_secondMend l D cI cZ cW cC ad st ln N3 fs fc hm (nI sn3) kp cm PL pf55 sn3 hs3 rfl L HL HV hO3 Gt hGt n hn en co fo bo kF (upd fF i (zm1 Gt (fo i) (kF i) (fF i))) sF lh mF HC2 hfo h5b i hi _) (cwV 1 hts gX3_mended_X3_secondMend rfl rfl rfl (by decide +kernel) ⟨Nat.le_of_ble_eq_true rfl, Nat.le_of_ble_eq_true rfl⟩) hK hP hD hS hA 3 0 rfl rfl rfl hl.1 rfl (Nat.le_of_ble_eq_true rfl) dX3_mended_68 ⟨Nat.le_of_ble_eq_true rfl, Nat.le_of_ble_eq_true rfl⟩ (fun v w1 H locs hv hP hD hS => ?_)
            obtain ⟨rfl, N4, sn4, rfl, hs4, hO4⟩ := hv
            have hP : va_P D vwCl ((cX cI cW cC ad st ln N4 fs fc hm (nI sn4) kp cm) ++ va_pl PL pf55) H := hP
            have hD : va_D A ((cX cI cW cC ad st ln N4 fs fc hm (nI sn4) kp cm) ++ va_pl PL pf55) := hD
            refine W.eq (g2 := F0 m 71 ls [.int (zm2 Gt (fo i) (kF i)), .ref (co i)]) rfl ?_
            obtain ⟨kq, hq⟩ := zpl_at (X := (cX cI cW cC ad st ln N4 fs fc hm (nI sn4) kp cm)) (HC2.1 i hi).2.1 (HC2.1 i hi).2.2
            have eset := zpl_set (e := .inr (0, [.int (nI (fo i)), .int (kF i), .int ((upd fF i (zm1 Gt (fo i) (kF i) (fF i))) i), .int (zm2 Gt (fo i) (kF i)), .int (nI (bo i)), .int (lh i), .int (mF i)])) hD (HC2.1 i hi).2.1 (HC2.1 i hi).2.2 hq
            refine zq_put hx hb hts in_X3_mended_X0 tyX0 tyX0_ok nmX0 hown hK hP hD hS kq hq rfl 3 (by decide) (hts _ w_X3_mended__fieldLink_RX3_127_WordsBeside_Claim_q_I__34e6aa) rfl rfl rfl (Nat.le_of_ble_eq_true rfl) dX3_mended_71 (fun H locs hP hD hS => ?_)
            obtain ⟨pf71, epf71⟩ : ∃ z, z = va_up pf55 (co i) (.inr (0, [.int (nI (fo i)), .int (kF i), .int ((upd fF i (zm1 Gt (fo i) (kF i) (fF i))) i), .int (zm2 Gt (fo i) (kF i)), .int (nI (bo i)), .int (lh i), .int (mF i)])) := ⟨_, rfl⟩
            rw [← epf71] at eset
            have hP : va_P D vwCl ((cX cI cW cC ad st ln N4 fs fc hm (nI sn4) kp cm) ++ va_pl PL pf71) H := by rw [← eset]; exact hP
            have hD : va_D A ((cX cI cW cC ad st ln N4 fs fc hm (nI sn4) kp cm) ++ va_pl PL pf71) := by rw [← eset]; exact hD
            have HC3 : zPC PL pf71 fc co fo bo kF (upd fF i (zm1 Gt (fo i) (kF i) (fF i))) (upd sF i (zm2 Gt (fo i) (kF i))) lh mF n := zPC_up HC2 hi (by rw [epf71]; simp only [pk_us]) (fun _ _ => rfl) (fun q hq => pk_un hq) (fun _ _ => rfl) (fun _ _ => rfl)
            have HW3 : zPW cI PL pf71 fs wo go Gs k := by rw [epf71]; exact zPW_up HW2 (HC2.1 i hi).2.2
            refine lv_aload_n hx hb dX3_mended_74 rfl (lv_at hl 1 rfl) ?_
            refine lv_aload_n hx hb dX3_mended_75 rfl (lv_at hl 2 rfl) ?_
            refine lv_aload_n hx hb dX3_mended_76 rfl (lv_at hl 1 rfl) ?_
            refine zq_cV (rest := [.ref (co i)]) ⟨hx, hb, hml, hown, hts⟩ (c_X3_lastKeptHolding l D cI cZ cW cC ad st ln N4 fs fc hm (nI sn4) kp cm PL pf71 k hk ek wo go Gs HW3 (co i) (fo i) (bo i) hfi (hbk i hi) (kF i) ((upd fF i (zm1 Gt (fo i) (kF i) (fF i))) i) ((upd sF i (zm2 Gt (fo i) (kF i))) i) (lh i) (mF i) (HC3.1 i hi).2.1 (HC3.1 i hi).2.2) (cwV 1 hts gX3_mended_X3_lastKeptHolding rfl rfl rfl (by decide +kernel) ⟨Nat.le_of_ble_eq_true rfl, Nat.le_of_ble_eq_true rfl⟩) hK hP 3 0 rfl rfl rfl hl.1 rfl (Nat.le_of_ble_eq_true rfl) dX3_mended_77 ⟨Nat.le_of_ble_eq_true rfl, Nat.le_of_ble_eq_true rfl⟩ (fun v hv => ?_)
            obtain rfl := hv
            refine W.eq (g2 := F0 m 80 ls [.int (zlk (fun t => zheld (zden (Gs t) (fo i) (kF i) ((upd fF i (zm1 Gt (fo i) (kF i) (fF i))) i) ((upd sF i (zm2 Gt (fo i) (kF i))) i))) (bo i) (k + 1)), .ref (co i)]) rfl ?_
            obtain ⟨kq, hq⟩ := zpl_at (X := (cX cI cW cC ad st ln N4 fs fc hm (nI sn4) kp cm)) (HC3.1 i hi).2.1 (HC3.1 i hi).2.2
            have eset := zpl_set (e := .inr (0, [.int (nI (fo i)), .int (kF i), .int ((upd fF i (zm1 Gt (fo i) (kF i) (fF i))) i), .int ((upd sF i (zm2 Gt (fo i) (kF i))) i), .int (nI (bo i)), .int (zlk (fun t => zheld (zden (Gs t) (fo i) (kF i) ((upd fF i (zm1 Gt (fo i) (kF i) (fF i))) i) ((upd sF i (zm2 Gt (fo i) (kF i))) i))) (bo i) (k + 1)), .int (mF i)])) hD (HC3.1 i hi).2.1 (HC3.1 i hi).2.2 hq
            refine zq_put hx hb hts in_X3_mended_X0 tyX0 tyX0_ok nmX0 hown hK hP hD hS kq hq rfl 5 (by decide) (hts _ w_X3_mended__fieldLink_RX3_92_WordsBeside_Claim_lastHeld_I__f6b92d) rfl rfl rfl (Nat.le_of_ble_eq_true rfl) dX3_mended_80 (fun H locs hP hD hS => ?_)
            obtain ⟨pf80, epf80⟩ : ∃ z, z = va_up pf71 (co i) (.inr (0, [.int (nI (fo i)), .int (kF i), .int ((upd fF i (zm1 Gt (fo i) (kF i) (fF i))) i), .int ((upd sF i (zm2 Gt (fo i) (kF i))) i), .int (nI (bo i)), .int (zlk (fun t => zheld (zden (Gs t) (fo i) (kF i) ((upd fF i (zm1 Gt (fo i) (kF i) (fF i))) i) ((upd sF i (zm2 Gt (fo i) (kF i))) i))) (bo i) (k + 1)), .int (mF i)])) := ⟨_, rfl⟩
            rw [← epf80] at eset
            have hP : va_P D vwCl ((cX cI cW cC ad st ln N4 fs fc hm (nI sn4) kp cm) ++ va_pl PL pf80) H := by rw [← eset]; exact hP
            have hD : va_D A ((cX cI cW cC ad st ln N4 fs fc hm (nI sn4) kp cm) ++ va_pl PL pf80) := by rw [← eset]; exact hD
            have HC4 : zPC PL pf80 fc co fo bo kF (upd fF i (zm1 Gt (fo i) (kF i) (fF i))) (upd sF i (zm2 Gt (fo i) (kF i))) (upd lh i (zlk (fun t => zheld (zden (Gs t) (fo i) (kF i) ((upd fF i (zm1 Gt (fo i) (kF i) (fF i))) i) ((upd sF i (zm2 Gt (fo i) (kF i))) i))) (bo i) (k + 1))) mF n := zPC_up HC3 hi (by rw [epf80]; simp only [pk_us]) (fun _ _ => rfl) (fun _ _ => rfl) (fun q hq => pk_un hq) (fun _ _ => rfl)
            have HW4 : zPW cI PL pf80 fs wo go Gs k := by rw [epf80]; exact zPW_up HW3 (HC3.1 i hi).2.2
            refine lv_iconst (v := (1 : Int32)) hx hb dX3_mended_83 (by decide) ?_
            exact ret _ _ _ _ _ _ (Or.inr rfl) (by exact Or.inl ⟨i, ⟨hi, rfl, hh, c32⟩, rfl, pf80, _, sn4, rfl, hs4, hO4, HW4, by rw [zfF, zsF, if_neg c42, if_neg c42, if_pos c62]; rw [zm2, if_pos c62] at HC4; exact HC4⟩) hP hD hS dX3_mended_84
        · refine lv_aload_n hx hb dX3_mended_45 rfl (lv_at hl 1 rfl) ?_
          refine lv_iload_n hx hb dX3_mended_46 rfl (lv_at hl 0 rfl) ?_
          obtain ⟨kq, hq⟩ := zpl_at (X := (cX cI cW cC ad st ln N3 fs fc hm (nI sn3) kp cm)) (HC.1 i hi).2.1 (HC.1 i hi).2.2
          have eset := zpl_set (e := .inr (0, [.int (nI (fo i)), .int (kF i), .int (fF i), .int (zm1 Gt (fo i) (kF i) (fF i)), .int (nI (bo i)), .int (lh i), .int (mF i)])) hD (HC.1 i hi).2.1 (HC.1 i hi).2.2 hq
          refine zq_put hx hb hts in_X3_mended_X0 tyX0 tyX0_ok nmX0 hown hK hP hD hS kq hq rfl 3 (by decide) (hts _ w_X3_mended__fieldLink_RX3_127_WordsBeside_Claim_q_I__34e6aa) rfl rfl rfl (Nat.le_of_ble_eq_true rfl) dX3_mended_47 (fun H locs hP hD hS => ?_)
          obtain ⟨pf47, epf47⟩ : ∃ z, z = va_up pf (co i) (.inr (0, [.int (nI (fo i)), .int (kF i), .int (fF i), .int (zm1 Gt (fo i) (kF i) (fF i)), .int (nI (bo i)), .int (lh i), .int (mF i)])) := ⟨_, rfl⟩
          rw [← epf47] at eset
          have hP : va_P D vwCl ((cX cI cW cC ad st ln N3 fs fc hm (nI sn3) kp cm) ++ va_pl PL pf47) H := by rw [← eset]; exact hP
          have hD : va_D A ((cX cI cW cC ad st ln N3 fs fc hm (nI sn3) kp cm) ++ va_pl PL pf47) := by rw [← eset]; exact hD
          have HC2 : zPC PL pf47 fc co fo bo kF fF (upd sF i (zm1 Gt (fo i) (kF i) (fF i))) lh mF n := zPC_up HC hi (by rw [epf47, pk_us]) (fun _ _ => rfl) (fun q hq => pk_un hq) (fun _ _ => rfl) (fun _ _ => rfl)
          have HW2 : zPW cI PL pf47 fs wo go Gs k := by rw [epf47]; exact zPW_up HW (HC.1 i hi).2.2
          refine lv_goto (tgt := 58) hx hb dX3_mended_50 (by decide) ?_
          refine lv_aload_n hx hb dX3_mended_58 rfl (lv_at hl 1 rfl) ?_
          obtain ⟨kq, hq⟩ := zpl_at (X := (cX cI cW cC ad st ln N3 fs fc hm (nI sn3) kp cm)) (HC2.1 i hi).2.1 (HC2.1 i hi).2.2
          refine zq_get hx hb hts in_X3_mended_X0 hown hK hP kq hq rfl 1 (by decide) (hts _ w_X3_mended__fieldLink_RX3_121_WordsBeside_Claim_kind_I__be85f9) rfl dX3_mended_59 ?_
          refine lv_if_ne (tgt := 74) hx hb dX3_mended_62 (by decide) (fun c62 => ?_) (fun c62 => absurd (c42.symm.trans c62) (by decide))
          refine lv_aload_n hx hb dX3_mended_74 rfl (lv_at hl 1 rfl) ?_
          refine lv_aload_n hx hb dX3_mended_75 rfl (lv_at hl 2 rfl) ?_
          refine lv_aload_n hx hb dX3_mended_76 rfl (lv_at hl 1 rfl) ?_
          refine zq_cV (rest := [.ref (co i)]) ⟨hx, hb, hml, hown, hts⟩ (c_X3_lastKeptHolding l D cI cZ cW cC ad st ln N3 fs fc hm (nI sn3) kp cm PL pf47 k hk ek wo go Gs HW2 (co i) (fo i) (bo i) hfi (hbk i hi) (kF i) (fF i) ((upd sF i (zm1 Gt (fo i) (kF i) (fF i))) i) (lh i) (mF i) (HC2.1 i hi).2.1 (HC2.1 i hi).2.2) (cwV 1 hts gX3_mended_X3_lastKeptHolding rfl rfl rfl (by decide +kernel) ⟨Nat.le_of_ble_eq_true rfl, Nat.le_of_ble_eq_true rfl⟩) hK hP 3 0 rfl rfl rfl hl.1 rfl (Nat.le_of_ble_eq_true rfl) dX3_mended_77 ⟨Nat.le_of_ble_eq_true rfl, Nat.le_of_ble_eq_true rfl⟩ (fun v hv => ?_)
          obtain rfl := hv
          refine W.eq (g2 := F0 m 80 ls [.int (zlk (fun t => zheld (zden (Gs t) (fo i) (kF i) (fF i) ((upd sF i (zm1 Gt (fo i) (kF i) (fF i))) i))) (bo i) (k + 1)), .ref (co i)]) rfl ?_
          obtain ⟨kq, hq⟩ := zpl_at (X := (cX cI cW cC ad st ln N3 fs fc hm (nI sn3) kp cm)) (HC2.1 i hi).2.1 (HC2.1 i hi).2.2
          have eset := zpl_set (e := .inr (0, [.int (nI (fo i)), .int (kF i), .int (fF i), .int ((upd sF i (zm1 Gt (fo i) (kF i) (fF i))) i), .int (nI (bo i)), .int (zlk (fun t => zheld (zden (Gs t) (fo i) (kF i) (fF i) ((upd sF i (zm1 Gt (fo i) (kF i) (fF i))) i))) (bo i) (k + 1)), .int (mF i)])) hD (HC2.1 i hi).2.1 (HC2.1 i hi).2.2 hq
          refine zq_put hx hb hts in_X3_mended_X0 tyX0 tyX0_ok nmX0 hown hK hP hD hS kq hq rfl 5 (by decide) (hts _ w_X3_mended__fieldLink_RX3_92_WordsBeside_Claim_lastHeld_I__f6b92d) rfl rfl rfl (Nat.le_of_ble_eq_true rfl) dX3_mended_80 (fun H locs hP hD hS => ?_)
          obtain ⟨pf80, epf80⟩ : ∃ z, z = va_up pf47 (co i) (.inr (0, [.int (nI (fo i)), .int (kF i), .int (fF i), .int ((upd sF i (zm1 Gt (fo i) (kF i) (fF i))) i), .int (nI (bo i)), .int (zlk (fun t => zheld (zden (Gs t) (fo i) (kF i) (fF i) ((upd sF i (zm1 Gt (fo i) (kF i) (fF i))) i))) (bo i) (k + 1)), .int (mF i)])) := ⟨_, rfl⟩
          rw [← epf80] at eset
          have hP : va_P D vwCl ((cX cI cW cC ad st ln N3 fs fc hm (nI sn3) kp cm) ++ va_pl PL pf80) H := by rw [← eset]; exact hP
          have hD : va_D A ((cX cI cW cC ad st ln N3 fs fc hm (nI sn3) kp cm) ++ va_pl PL pf80) := by rw [← eset]; exact hD
          have HC4 : zPC PL pf80 fc co fo bo kF fF (upd sF i (zm1 Gt (fo i) (kF i) (fF i))) (upd lh i (zlk (fun t => zheld (zden (Gs t) (fo i) (kF i) (fF i) ((upd sF i (zm1 Gt (fo i) (kF i) (fF i))) i))) (bo i) (k + 1))) mF n := zPC_up HC2 hi (by rw [epf80]; simp only [pk_us]) (fun _ _ => rfl) (fun _ _ => rfl) (fun q hq => pk_un hq) (fun _ _ => rfl)
          have HW4 : zPW cI PL pf80 fs wo go Gs k := by rw [epf80]; exact zPW_up HW2 (HC2.1 i hi).2.2
          refine lv_iconst (v := (1 : Int32)) hx hb dX3_mended_83 (by decide) ?_
          exact ret _ _ _ _ _ _ (Or.inr rfl) (by exact Or.inl ⟨i, ⟨hi, rfl, hh, c32⟩, rfl, pf80, _, sn3, rfl, hs3, hO3, HW4, by rw [zfF, zsF, if_pos c42, if_pos c42]; exact HC4⟩) hP hD hS dX3_mended_84
      · refine lv_iconst (v := (0 : Int32)) hx hb dX3_mended_35 (by decide) ?_
        exact ret _ _ _ _ _ _ (Or.inl rfl) (by exact Or.inr ⟨(fun ⟨j, hj, e, h3, h4⟩ => by have e2 := zeq e; subst e2; exact h4 c32), rfl, _, sn3, rfl, hs3, hO3⟩) hP hD hS dX3_mended_36
    · refine lv_iconst (v := (0 : Int32)) hx hb dX3_mended_21 (by decide) ?_
      exact ret _ _ _ _ _ _ (Or.inl rfl) (by exact Or.inr ⟨(fun ⟨j, hj, e, h3, h4⟩ => by have e2 := zeq e; subst e2; rw [zdn, ← zheld_cong eN hfi, zct_aa c18] at h3; cases h3), rfl, _, 6, rfl, by omega, hN2⟩) hP hD hS dX3_mended_22
  · refine W.eq (g2 := F0 m 5 ls [.null]) rfl ?_
    refine lv_astore_nN (lv' := [(2, .null), (0, .ref (ad 0)), (1, .int cl)]) hx hb dX3_mended_5 rfl hl (by decide) rfl (fun ls hl => ?_)
    refine lv_aload_nN hx hb dX3_mended_6 rfl (lv_at hl 0 rfl) ?_
    refine lv_ifnullN (tgt := 21) hx hb dX3_mended_7 (by decide) ?_
    refine lv_iconst (v := (0 : Int32)) hx hb dX3_mended_21 (by decide) ?_
    exact ret _ _ _ _ _ _ (Or.inl rfl) (by exact Or.inr ⟨(fun ⟨j, hj, e, h3, h4⟩ => hyc ⟨j, hj, e⟩), rfl, _, sn, rfl, hsn, hOK⟩) hP hD hS dX3_mended_22
