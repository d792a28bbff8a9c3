/-! WordsBeside: mark, mended: what is written into the pool -/
theorem zpl_set {A : Nat → Prop} {X : va_W} {PL : List Nat} {pf : Nat → va_E} {a q : Nat} {e0 e : va_E} (hD : va_D A (X ++ va_pl PL pf)) (h : a ∈ PL) (he : pf a = e0) (hq : (X ++ va_pl PL pf)[q]? = some (a, e0)) : (X ++ va_pl PL pf).set q (a, e) = X ++ va_pl PL (va_up pf a e) := va_pl_set hD h (by rw [hq, he])
theorem zPC_up {PL : List Nat} {pf pf2 : Nat → va_E} {fc : Nat → Option Nat} {co fo bo : Nat → Nat} {kF fF sF lh mF fF2 sF2 lh2 mF2 : Nat → Int32} {n i : Nat} (HC : zPC PL pf fc co fo bo kF fF sF lh mF n) (hi : i < n)
    (e : pf2 = va_up pf (co i) (.inr (0, [.int (nI (fo i)), .int (kF i), .int (fF2 i), .int (sF2 i), .int (nI (bo i)), .int (lh2 i), .int (mF2 i)])))
    (h1 : ∀ q, q ≠ i → fF2 q = fF q) (h2 : ∀ q, q ≠ i → sF2 q = sF q) (h3 : ∀ q, q ≠ i → lh2 q = lh q) (h4 : ∀ q, q ≠ i → mF2 q = mF q) : zPC PL pf2 fc co fo bo kF fF2 sF2 lh2 mF2 n := by
  refine ⟨fun q hq => ?_, HC.2⟩
  obtain ⟨a1, a2, a3⟩ := HC.1 q hq
  refine ⟨a1, a2, ?_⟩
  by_cases eq : q = i
  · subst eq
    rw [e, va_up_self]
  · have hne : co q ≠ co i := fun z => eq (HC.2 q i hq hi z)
    rw [e, va_up_ne _ _ hne, a3, h1 q eq, h2 q eq, h3 q eq, h4 q eq]
theorem zPW_up {cI : ClassId} {PL : List Nat} {pf : Nat → va_E} {fs : Nat → Option Nat} {wo go : Nat → Nat} {Gs : Nat → Nat → Int32} {k a : Nat} {vs vs2 : List Value} (HW : zPW cI PL pf fs wo go Gs k) (ha : pf a = .inr (0, vs)) : zPW cI PL (va_up pf a (.inr (0, vs2))) fs wo go Gs k := by
  intro t ht
  obtain ⟨b1, b2, b3, b4, b5⟩ := HW t ht
  have h1 : wo t ≠ a := fun z => by
    rw [z, ha] at b3
    cases b3
  have h2 : go t ≠ a := fun z => by
    rw [z, ha] at b5
    cases b5
  exact ⟨b1, b2, by rw [va_up_ne _ _ h1]; exact b3, b4, by rw [va_up_ne _ _ h2]; exact b5⟩

theorem w_X3_mark__fieldLink_RX3_134_WordsBeside_Claim_marked_Z__c3d21a : (.fieldLink RX3 134 "WordsBeside$Claim" "marked" "Z" : Cond) ∈ wsX3_mark := by decide +kernel
theorem in_X3_mark_X0 : ∀ w ∈ wsX00, w ∈ wsX3_mark := fun _ h => List.mem_cons_of_mem _ (List.mem_append_left _ (List.mem_append_right _ h))
set_option maxHeartbeats 4000000 in
set_option maxRecDepth 100000 in
theorem c_X3_mark (l : Launch) (D : va_G) (cI cZ cW cC : ClassId) (ad : Nat → Nat) (st ln N : Nat → Int32) (fs fc : Nat → Option Nat) (hm : Nat → Int32) (se kp cm : Int32) (PL : List Nat) (pf : Nat → va_E) (k : Nat) (hk : k ≤ 30) (ek : kp = nI k) (wo go : Nat → Nat) (Gs : Nat → Nat → Int32) (HW : zPW cI PL pf fs wo go Gs k) (n : Nat) (hn : n ≤ 40) (en : cm = nI n) (co fo bo : Nat → Nat) (kF fF sF lh mF : Nat → Int32) (HC : zPC PL pf fc co fo bo kF fF sF lh mF n) (cl : Int32) (sz : Nat) : zq_mu l D cI cZ cW cC yX3_mark wsX3_mark ({ frames := 1, cells := 0, slots := 0, locals := 21 } : Room) [.ref (ad 0), .int cl] ((cX cI cW cC ad st ln N fs fc hm se kp cm) ++ va_pl PL pf) sz (fun v w1 => (∃ i, i < n ∧ cl = nI i ∧ mF i = 0 ∧ v = some (.int 1) ∧ ∃ pf2 : Nat → va_E, w1 = ((cX cI cW cC ad st ln N fs fc hm se kp cm) ++ va_pl PL pf2) ∧ zPW cI PL pf2 fs wo go Gs k ∧ zPC PL pf2 fc co fo bo kF fF sF lh (upd mF i 1) n) ∨ (¬ (∃ i, i < n ∧ cl = nI i ∧ mF i = 0) ∧ v = some (.int 0) ∧ w1 = ((cX cI cW cC ad st ln N fs fc hm se kp cm) ++ va_pl PL pf))) 0 0 := by
  refine zq_muZ (own := RX3) (by decide) rfl rfl (Nat.le_of_ble_eq_true rfl) ?_
  intro p e s m below meth c Q A ls hsz hF hin hA hP hK hD hS hl ret
  obtain ⟨hx, hb, hml, hown, hts⟩ := hF
  have hl : lv_has ls 3 [(0, .ref (ad 0)), (1, .int cl)] := hl
  refine lv_aload_n hx hb dX3_mark_0 rfl (lv_at hl 0 rfl) ?_
  refine lv_iload_n hx hb dX3_mark_1 rfl (lv_at hl 1 rfl) ?_
  refine zq_cV (rest := []) ⟨hx, hb, hml, hown, hts⟩ (c_X3_claimAt l D cI cZ cW cC ad st ln N fs fc hm se kp cm PL pf n hn en co fo bo kF fF sF lh mF HC cl) (cwV 1 hts gX3_mark_X3_claimAt rfl rfl rfl (by decide +kernel) ⟨Nat.le_of_ble_eq_true rfl, Nat.le_of_ble_eq_true rfl⟩) hK hP 3 0 rfl rfl rfl hl.1 rfl (Nat.le_of_ble_eq_true rfl) dX3_mark_2 ⟨Nat.le_of_ble_eq_true rfl, Nat.le_of_ble_eq_true rfl⟩ (fun v hv => ?_)
  rcases hv with ⟨i, hi, rfl, rfl⟩ | ⟨hyc, rfl⟩
  · refine W.eq (g2 := F0 m 5 ls [.ref (co i)]) rfl ?_
    refine lv_astore_n (lv' := [(2, .ref (co i)), (0, .ref (ad 0)), (1, .int (nI i))]) hx hb dX3_mark_5 rfl hl (by decide) rfl (fun ls hl => ?_)
    refine lv_aload_n hx hb dX3_mark_6 rfl (lv_at hl 0 rfl) ?_
    refine lv_ifnull hx hb dX3_mark_7 ?_
    refine lv_aload_n hx hb dX3_mark_10 rfl (lv_at hl 0 rfl) ?_
    obtain ⟨kq, hq⟩ := zpl_at (X := (cX cI cW cC ad st ln N fs fc hm se kp cm)) (HC.1 i hi).2.1 (HC.1 i hi).2.2
    refine zq_get hx hb hts in_X3_mark_X0 hown hK hP kq hq rfl 6 (by decide) (hts _ w_X3_mark__fieldLink_RX3_134_WordsBeside_Claim_marked_Z__c3d21a) rfl dX3_mark_11 ?_
    refine lv_if_eq (tgt := 19) hx hb dX3_mark_14 (by decide) (fun c14 => ?_) (fun c14 => ?_)
    · refine lv_aload_n hx hb dX3_mark_19 rfl (lv_at hl 0 rfl) ?_
      refine lv_iconst (v := (1 : Int32)) hx hb dX3_mark_20 (by decide) ?_
      obtain ⟨kq, hq⟩ := zpl_at (X := (cX cI cW cC ad st ln N fs fc hm se kp cm)) (HC.1 i hi).2.1 (HC.1 i hi).2.2
      have eset := zpl_set (e := .inr (0, [.int (nI (fo i)), .int (kF i), .int (fF i), .int (sF i), .int (nI (bo i)), .int (lh i), .int (1 : Int32)])) hD (HC.1 i hi).2.1 (HC.1 i hi).2.2 hq
      refine zq_put hx hb hts in_X3_mark_X0 tyX0 tyX0_ok nmX0 hown hK hP hD hS kq hq rfl 6 (by decide) (hts _ w_X3_mark__fieldLink_RX3_134_WordsBeside_Claim_marked_Z__c3d21a) rfl rfl rfl (Nat.le_of_ble_eq_true rfl) dX3_mark_21 (fun H locs hP hD hS => ?_)
      obtain ⟨pf21, epf21⟩ : ∃ z, z = va_up pf (co i) (.inr (0, [.int (nI (fo i)), .int (kF i), .int (fF i), .int (sF i), .int (nI (bo i)), .int (lh i), .int (1 : Int32)])) := ⟨_, rfl⟩
      rw [← epf21] at eset
      have hP : va_P D vwCl ((cX cI cW cC ad st ln N fs fc hm se kp cm) ++ va_pl PL pf21) H := by rw [← eset]; exact hP
      have hD : va_D A ((cX cI cW cC ad st ln N fs fc hm se kp cm) ++ va_pl PL pf21) := by rw [← eset]; exact hD
      refine lv_iconst (v := (1 : Int32)) hx hb dX3_mark_24 (by decide) ?_
      exact ret _ _ _ _ _ _ (Or.inr rfl) (by exact Or.inl ⟨i, hi, rfl, c14, rfl, pf21, rfl, by rw [epf21]; exact zPW_up HW (HC.1 i hi).2.2, zPC_up HC hi (by rw [epf21, pk_us]) (fun _ _ => rfl) (fun _ _ => rfl) (fun _ _ => rfl) (fun q hq => pk_un hq)⟩) hP hD hS dX3_mark_25
    · refine lv_iconst (v := (0 : Int32)) hx hb dX3_mark_17 (by decide) ?_
      exact ret _ _ _ _ _ _ (Or.inl rfl) (by exact Or.inr ⟨(fun ⟨j, hj, e, h⟩ => by have e2 := zeq e; subst e2; exact c14 h), rfl, rfl⟩) hP hD hS dX3_mark_18
  · refine W.eq (g2 := F0 m 5 ls [.null]) rfl ?_
    refine lv_astore_nN (lv' := [(2, .null), (0, .ref (ad 0)), (1, .int cl)]) hx hb dX3_mark_5 rfl hl (by decide) rfl (fun ls hl => ?_)
    refine lv_aload_nN hx hb dX3_mark_6 rfl (lv_at hl 0 rfl) ?_
    refine lv_ifnullN (tgt := 17) hx hb dX3_mark_7 (by decide) ?_
    refine lv_iconst (v := (0 : Int32)) hx hb dX3_mark_17 (by decide) ?_
    exact ret _ _ _ _ _ _ (Or.inl rfl) (by exact Or.inr ⟨(fun ⟨j, hj, e, h⟩ => hyc ⟨j, hj, e⟩), rfl, rfl⟩) hP hD hS dX3_mark_18
