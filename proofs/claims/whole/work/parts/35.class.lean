/-! WordsBeside: listed, mark -/

theorem cn_X3_claimAt (l : Launch) (D : va_G) (cI cZ cW cC : ClassId) (ad : Nat → Nat) (st ln N : Nat → Int32) (fs fc : Nat → Option Nat) (hm : Nat → Int32) (se kp cm : Int32) (PL : List Nat) (pf : Nat → va_E) (n : Nat) (hn : n ≤ 40) (en : cm = nI n) (co fo bo : Nat → Nat) (kF fF sF lh mF : Nat → Int32) (HC : zPC PL pf fc co fo bo kF fF sF lh mF n) (j : Nat) (hj : j < 2 ^ 31) : zq_ro l D cI cZ cW cC yX3_claimAt wsX3_claimAt ({ frames := 0, cells := 0, slots := 0, locals := 0 } : Room) [.ref (ad 0), .int (nI j)] ((cX cI cW cC ad st ln N fs fc hm se kp cm) ++ va_pl PL pf) (fun v => (j < n ∧ v = some (.ref (co j))) ∨ (¬ j < n ∧ v = some .null)) := zq_ro_mono (c_X3_claimAt l D cI cZ cW cC ad st ln N fs fc hm se kp cm PL pf n hn en co fo bo kF fF sF lh mF HC (nI j)) (fun v h => by
  rcases h with ⟨t2, h1, h2, h3⟩ | ⟨h1, h2⟩
  · have e := zeq h2 hj (by omega)
    subst e
    exact Or.inl ⟨h1, h3⟩
  · exact Or.inr ⟨fun q => h1 (zr_nI q), h2⟩)
theorem w_X3_fillListedHarms__fieldLink_RX3_134_WordsBeside_Claim_marked_Z__c3d21a : (.fieldLink RX3 134 "WordsBeside$Claim" "marked" "Z" : Cond) ∈ wsX3_fillListedHarms := by decide +kernel
theorem w_X3_fillListedHarms__fieldLink_RX3_36_WordsBeside_claims_LWordsBeside_Claim__842a06 : (.fieldLink RX3 36 "WordsBeside" "claims" "[LWordsBeside$Claim;" : Cond) ∈ wsX3_fillListedHarms := by decide +kernel
theorem w_X3_fillListedHarms__fieldLink_RX3_43_WordsBeside_listedHarms_I__517f26 : (.fieldLink RX3 43 "WordsBeside" "listedHarms" "[I" : Cond) ∈ wsX3_fillListedHarms := by decide +kernel
theorem in_X3_fillListedHarms_X0 : ∀ w ∈ wsX00, w ∈ wsX3_fillListedHarms := fun _ h => List.mem_cons_of_mem _ (List.mem_append_left _ (List.mem_append_left _ (List.mem_append_right _ h)))
theorem in_X3_fillListedHarms_X3 : ∀ w ∈ wsX30, w ∈ wsX3_fillListedHarms := fun _ h => List.mem_cons_of_mem _ (List.mem_append_left _ (List.mem_append_left _ (List.mem_append_left _ (List.mem_append_right _ h))))
set_option maxHeartbeats 4000000 in
set_option maxRecDepth 100000 in
theorem c_X3_fillListedHarms (l : Launch) (D : va_G) (cI cZ cW cC : ClassId) (ad : Nat → Nat) (st ln N : Nat → Int32) (fs fc : Nat → Option Nat) (hm : Nat → Int32) (se kp cm : Int32) (PL : List Nat) (pf : Nat → va_E) (sn : Nat) (hsn : sn ≤ 6) (es : se = nI sn) (L : Nat → Nat) (HL : zHL ln L) (HV : ∀ f, f < 6 → zvs st f (L f)) (hOK : zOK st L N sn) (Gt : Nat → Int32) (hGt : zOK st L Gt 6) (n : Nat) (hn : n ≤ 40) (en : cm = nI n) (co fo bo : Nat → Nat) (kF fF sF lh mF : Nat → Int32) (HC : zPC PL pf fc co fo bo kF fF sF lh mF n) (hfo : ∀ i, i < n → fo i < 6) (sz : Nat) : zq_mu l D cI cZ cW cC yX3_fillListedHarms wsX3_fillListedHarms ({ frames := 5, cells := 0, slots := 0, locals := 119 } : Room) [.ref (ad 0)] ((cX cI cW cC ad st ln N fs fc hm se kp cm) ++ va_pl PL pf) sz (fun v w1 => v = none ∧ ∃ (N3 : Nat → Int32) (sn3 : Nat) (h3 : Nat → Int32), w1 = ((cX cI cW cC ad st ln N3 fs fc h3 (nI sn3) kp cm) ++ va_pl PL pf) ∧ sn3 ≤ 6 ∧ zOK st L N3 sn3 ∧ ∀ q, q < n → h3 q = nI ((zhar mF (zdn Gt fo kF fF sF)) q)) 0 0 := by
  refine zq_muV (own := RX3) (by decide) rfl rfl (Nat.le_of_ble_eq_true rfl) ?_
  intro p e s m below meth c Q A ls hsz hF hin hA hP hK hD hS hl ret
  obtain ⟨hx, hb, hml, hown, hts⟩ := hF
  have hl : lv_has ls 4 [(0, .ref (ad 0))] := hl
  subst es
  refine lv_aload_n hx hb dX3_fillListedHarms_0 rfl (lv_at hl 0 rfl) ?_
  refine zq_cM (rest := []) ⟨hx, hb, hml, hown, hts⟩ (c_X3_present l D cI cZ cW cC ad st ln N fs fc hm (nI sn) kp cm PL pf L HL HV sn hsn rfl hOK _) (cwV 0 hts gX3_fillListedHarms_X3_present rfl rfl rfl (by decide +kernel) ⟨Nat.le_of_ble_eq_true rfl, Nat.le_of_ble_eq_true rfl⟩) hK hP hD hS hA 3 0 rfl rfl rfl hl.1 rfl (Nat.le_of_ble_eq_true rfl) dX3_fillListedHarms_1 ⟨Nat.le_of_ble_eq_true rfl, Nat.le_of_ble_eq_true rfl⟩ (fun v w1 H locs hv hP hD hS => ?_)
  obtain ⟨rfl, N2, rfl, hN2⟩ := hv
  have hP : va_P D vwCl ((cX cI cW cC ad st ln N2 fs fc hm (nI 6) kp cm) ++ va_pl PL pf) H := hP
  have hD : va_D A ((cX cI cW cC ad st ln N2 fs fc hm (nI 6) kp cm) ++ va_pl PL pf) := hD
  refine W.eq (g2 := F0 m 4 ls [.ref (ad 4)]) rfl ?_
  have eN : ∀ j, j < 1536 → N2 j = Gt j := zOK_one (by omega) hN2 hGt HV
  refine lv_astore_n (lv' := [(1, .ref (ad 4)), (0, .ref (ad 0))]) hx hb dX3_fillListedHarms_4 rfl hl (by decide) rfl (fun ls hl => ?_)
  refine lv_iconst (v := (nI 0)) hx hb dX3_fillListedHarms_5 (by decide) ?_
  refine lv_istore_n (lv' := [(2, .int (nI 0)), (1, .ref (ad 4)), (0, .ref (ad 0))]) hx hb dX3_fillListedHarms_6 rfl hl (by decide) rfl (fun ls hl => ?_)
  have loop7 : ∀ (fu7 : Nat) (j : Nat) (hk2 : Nat → Int32) (H : Heap) (locs : List Loc) (ls : Array Slot), (40 - j) < fu7 → (j ≤ 40) → (∀ q, q < j → q < n → hk2 q = nI ((zhar mF (zdn Gt fo kF fF sF)) q)) → va_P D vwCl ((cX cI cW cC ad st ln N2 fs fc hk2 (nI 6) kp cm) ++ va_pl PL pf) H → va_D A ((cX cI cW cC ad st ln N2 fs fc hk2 (nI 6) kp cm) ++ va_pl PL pf) → va_S A s.heap H locs → lv_has ls 4 [(0, .ref (ad 0)), (1, .ref (ad 4)), (2, .int (nI j))] → W p l e ({ frames := 5, cells := 0, slots := 0, locals := 119 } : Room) s m ([.ref (ad 0)] : List Value).toArray below meth c H locs 0 0 Q (F0 m 7 ls []) := by
    intro fu7
    induction fu7 with
    | zero => intro _ _ _ _ _ hmu; exact absurd hmu (Nat.not_lt_zero _)
    | succ fu7 ih7 =>
      intro j hk2 H locs ls hmu7 hj hh hP hD hS hl
      refine lv_iload_n hx hb dX3_fillListedHarms_7 rfl (lv_at hl 2 rfl) ?_
      refine lv_aload_n hx hb dX3_fillListedHarms_8 rfl (lv_at hl 0 rfl) ?_
      refine zq_get hx hb hts in_X3_fillListedHarms_X3 hown hK hP 0 rfl rfl 5 (by decide) (hts _ w_X3_fillListedHarms__fieldLink_RX3_36_WordsBeside_claims_LWordsBeside_Claim__842a06) rfl dX3_fillListedHarms_9 ?_
      refine va_alen hx hb hK.1 hP 7 3 rfl rfl (v := (nI 40)) rfl dX3_fillListedHarms_12 ?_
      refine lv_icmp_ge (tgt := 54) hx hb dX3_fillListedHarms_13 (by decide) (fun c13 => ?_) (fun c13 => ?_)
      · have h13 := zle c13
        exact ret _ _ _ _ _ (by exact ⟨rfl, _, 6, hk2, rfl, by omega, hN2, fun q hq => hh q (by omega) hq⟩) hP hD hS dX3_fillListedHarms_54
      · have h13 := znle c13
        refine lv_aload_n hx hb dX3_fillListedHarms_16 rfl (lv_at hl 0 rfl) ?_
        refine lv_iload_n hx hb dX3_fillListedHarms_17 rfl (lv_at hl 2 rfl) ?_
        refine zq_cV (rest := []) ⟨hx, hb, hml, hown, hts⟩ (cn_X3_claimAt l D cI cZ cW cC ad st ln N2 fs fc hk2 (nI 6) kp cm PL pf n hn en co fo bo kF fF sF lh mF HC j (by omega)) (cwV 1 hts gX3_fillListedHarms_X3_claimAt rfl rfl rfl (by decide +kernel) ⟨Nat.le_of_ble_eq_true rfl, Nat.le_of_ble_eq_true rfl⟩) hK hP 3 0 rfl rfl rfl hl.1 rfl (Nat.le_of_ble_eq_true rfl) dX3_fillListedHarms_18 ⟨Nat.le_of_ble_eq_true rfl, Nat.le_of_ble_eq_true rfl⟩ (fun v hv => ?_)
        rcases hv with ⟨hjn, rfl⟩ | ⟨hjn, rfl⟩
        · refine W.eq (g2 := F0 m 21 ls [.ref (co j)]) rfl ?_
          have hfj := hfo j hjn
          refine lv_astore_n (lv' := [(3, .ref (co j)), (0, .ref (ad 0)), (1, .ref (ad 4)), (2, .int (nI j))]) hx hb dX3_fillListedHarms_21 rfl hl (by decide) rfl (fun ls hl => ?_)
          refine lv_aload_n hx hb dX3_fillListedHarms_22 rfl (lv_at hl 1 rfl) ?_
          refine zq_get hx hb hts in_X3_fillListedHarms_X3 hown hK hP 0 rfl rfl 7 (by decide) (hts _ w_X3_fillListedHarms__fieldLink_RX3_43_WordsBeside_listedHarms_I__517f26) rfl dX3_fillListedHarms_23 ?_
          refine lv_iload_n hx hb dX3_fillListedHarms_26 rfl (lv_at hl 3 rfl) ?_
          refine lv_aload_n hx hb dX3_fillListedHarms_27 rfl (lv_at hl 0 rfl) ?_
          refine lv_ifnull hx hb dX3_fillListedHarms_28 ?_
          refine lv_aload_n hx hb dX3_fillListedHarms_31 rfl (lv_at hl 0 rfl) ?_
          obtain ⟨kq, hq⟩ := zpl_at (X := (cX cI cW cC ad st ln N2 fs fc hk2 (nI 6) kp cm)) (HC.1 j hjn).2.1 (HC.1 j hjn).2.2
          refine zq_get hx hb hts in_X3_fillListedHarms_X0 hown hK hP kq hq rfl 6 (by decide) (hts _ w_X3_fillListedHarms__fieldLink_RX3_134_WordsBeside_Claim_marked_Z__c3d21a) rfl dX3_fillListedHarms_32 ?_
          refine lv_if_eq (tgt := 42) hx hb dX3_fillListedHarms_35 (by decide) (fun c35 => ?_) (fun c35 => ?_)
          · refine lv_aload_n hx hb dX3_fillListedHarms_42 rfl (lv_at hl 0 rfl) ?_
            refine lv_aload_n hx hb dX3_fillListedHarms_43 rfl (lv_at hl 2 rfl) ?_
            refine zq_cV (rest := [.int (nI j), .ref (ad 8)]) ⟨hx, hb, hml, hown, hts⟩ (c_X0_harmIn l D cI cZ cW cC (co j) (ad 4) (ad 5) N2 (fo j) hfj (kF j) (fF j) (sF j) (nI (bo j)) (lh j) (mF j)) (cwV 1 hts gX3_fillListedHarms_X0_harmIn rfl rfl rfl (by decide +kernel) ⟨Nat.le_of_ble_eq_true rfl, Nat.le_of_ble_eq_true rfl⟩) hK (zP_3 (zP_pl hP (HC.1 j (by omega)).2.1 (HC.1 j (by omega)).2.2) (hP 4 _ rfl) (hP 5 _ rfl)) 0 0 rfl rfl rfl hl.1 rfl (Nat.le_of_ble_eq_true rfl) dX3_fillListedHarms_44 ⟨Nat.le_of_ble_eq_true rfl, Nat.le_of_ble_eq_true rfl⟩ (fun v hv => ?_)
            obtain rfl := hv
            refine W.eq (g2 := F0 m 47 ls [.int (nI (fb_ct (zden N2 (fo j) (kF j) (fF j) (sF j)) 256)), .int (nI j), .ref (ad 8)]) rfl ?_
            refine zq_ist hx hb hK hP hD hS 8 rfl j rfl (by omega) (by decide) dX3_fillListedHarms_47 (fun H locs hP hD hS => ?_)
            have hP : va_P D vwCl ((cX cI cW cC ad st ln N2 fs fc (upd hk2 j (nI (fb_ct (zden N2 (fo j) (kF j) (fF j) (sF j)) 256))) (nI 6) kp cm) ++ va_pl PL pf) H := hP
            have hD : va_D A ((cX cI cW cC ad st ln N2 fs fc (upd hk2 j (nI (fb_ct (zden N2 (fo j) (kF j) (fF j) (sF j)) 256))) (nI 6) kp cm) ++ va_pl PL pf) := hD
            refine lv_iinc (v := (nI (j + 1))) (lv' := [(2, .int (nI (j + 1))), (3, .ref (co j)), (0, .ref (ad 0)), (1, .ref (ad 4))]) hx hb dX3_fillListedHarms_48 hl (k := 3) rfl ((nI_succ _).symm) (by decide) rfl (fun ls hl => ?_)
            refine lv_goto (tgt := 7) hx hb dX3_fillListedHarms_51 (by decide) ?_
            exact ih7 (j + 1) (upd hk2 j (nI (fb_ct (zden N2 (fo j) (kF j) (fF j) (sF j)) 256))) _ _ ls (by omega) (by omega) (fun q hq hq2 => by
                                              by_cases e : q = j
                                              · subst e; rw [pk_us, zhar, if_pos c35, zct_cong eN hfj]; rfl
                                              · rw [pk_un e]; exact hh q (by omega) hq2) hP hD hS (lv_sub hl [2, 3, 0] rfl)
          · refine lv_iconst (v := (0 : Int32)) hx hb dX3_fillListedHarms_38 (by decide) ?_
            refine lv_goto (tgt := 47) hx hb dX3_fillListedHarms_39 (by decide) ?_
            refine zq_ist hx hb hK hP hD hS 8 rfl j rfl (by omega) (by decide) dX3_fillListedHarms_47 (fun H locs hP hD hS => ?_)
            have hP : va_P D vwCl ((cX cI cW cC ad st ln N2 fs fc (upd hk2 j (0 : Int32)) (nI 6) kp cm) ++ va_pl PL pf) H := hP
            have hD : va_D A ((cX cI cW cC ad st ln N2 fs fc (upd hk2 j (0 : Int32)) (nI 6) kp cm) ++ va_pl PL pf) := hD
            refine lv_iinc (v := (nI (j + 1))) (lv' := [(2, .int (nI (j + 1))), (3, .ref (co j)), (0, .ref (ad 0)), (1, .ref (ad 4))]) hx hb dX3_fillListedHarms_48 hl (k := 3) rfl ((nI_succ _).symm) (by decide) rfl (fun ls hl => ?_)
            refine lv_goto (tgt := 7) hx hb dX3_fillListedHarms_51 (by decide) ?_
            exact ih7 (j + 1) (upd hk2 j (0 : Int32)) _ _ ls (by omega) (by omega) (fun q hq hq2 => by
                                              by_cases e : q = j
                                              · subst e; rw [pk_us, zhar, if_neg c35]; rfl
                                              · rw [pk_un e]; exact hh q (by omega) hq2) hP hD hS (lv_sub hl [2, 3, 0] rfl)
        · refine W.eq (g2 := F0 m 21 ls [.null]) rfl ?_
          refine lv_astore_nN (lv' := [(3, .null), (0, .ref (ad 0)), (1, .ref (ad 4)), (2, .int (nI j))]) hx hb dX3_fillListedHarms_21 rfl hl (by decide) rfl (fun ls hl => ?_)
          refine lv_aload_n hx hb dX3_fillListedHarms_22 rfl (lv_at hl 1 rfl) ?_
          refine zq_get hx hb hts in_X3_fillListedHarms_X3 hown hK hP 0 rfl rfl 7 (by decide) (hts _ w_X3_fillListedHarms__fieldLink_RX3_43_WordsBeside_listedHarms_I__517f26) rfl dX3_fillListedHarms_23 ?_
          refine lv_iload_n hx hb dX3_fillListedHarms_26 rfl (lv_at hl 3 rfl) ?_
          refine lv_aload_nN hx hb dX3_fillListedHarms_27 rfl (lv_at hl 0 rfl) ?_
          refine lv_ifnullN (tgt := 38) hx hb dX3_fillListedHarms_28 (by decide) ?_
          refine lv_iconst (v := (0 : Int32)) hx hb dX3_fillListedHarms_38 (by decide) ?_
          refine lv_goto (tgt := 47) hx hb dX3_fillListedHarms_39 (by decide) ?_
          refine zq_ist hx hb hK hP hD hS 8 rfl j rfl (by omega) (by decide) dX3_fillListedHarms_47 (fun H locs hP hD hS => ?_)
          have hP : va_P D vwCl ((cX cI cW cC ad st ln N2 fs fc (upd hk2 j (0 : Int32)) (nI 6) kp cm) ++ va_pl PL pf) H := hP
          have hD : va_D A ((cX cI cW cC ad st ln N2 fs fc (upd hk2 j (0 : Int32)) (nI 6) kp cm) ++ va_pl PL pf) := hD
          refine lv_iinc (v := (nI (j + 1))) (lv' := [(2, .int (nI (j + 1))), (3, .null), (0, .ref (ad 0)), (1, .ref (ad 4))]) hx hb dX3_fillListedHarms_48 hl (k := 3) rfl ((nI_succ _).symm) (by decide) rfl (fun ls hl => ?_)
          refine lv_goto (tgt := 7) hx hb dX3_fillListedHarms_51 (by decide) ?_
          exact ih7 (j + 1) (upd hk2 j (0 : Int32)) _ _ ls (by omega) (by omega) (fun q hq hq2 => by
                                              by_cases e : q = j
                                              · subst e; exact absurd hq2 hjn
                                              · rw [pk_un e]; exact hh q (by omega) hq2) hP hD hS (lv_sub hl [2, 3, 0] rfl)
  exact loop7 (40 + 1) 0 hm _ _ ls (by omega) (by omega) (fun q hq => absurd hq (Nat.not_lt_zero q)) hP hD hS (lv_sub hl [2, 1, 0] rfl)
theorem w_X3_listed__fieldLink_RX3_40_WordsBeside_came_I__48f8c3 : (.fieldLink RX3 40 "WordsBeside" "came" "I" : Cond) ∈ wsX3_listed := by decide +kernel
theorem w_X3_listed__fieldLink_RX3_43_WordsBeside_listedHarms_I__517f26 : (.fieldLink RX3 43 "WordsBeside" "listedHarms" "[I" : Cond) ∈ wsX3_listed := by decide +kernel
theorem in_X3_listed_X3 : ∀ w ∈ wsX30, w ∈ wsX3_listed := fun _ h => List.mem_cons_of_mem _ (List.mem_append_left _ (List.mem_append_left _ (List.mem_append_left _ (List.mem_append_right _ h))))
set_option maxHeartbeats 4000000 in
set_option maxRecDepth 100000 in
theorem c_X3_listed (l : Launch) (D : va_G) (cI cZ cW cC : ClassId) (ad : Nat → Nat) (st ln N : Nat → Int32) (fs fc : Nat → Option Nat) (hm : Nat → Int32) (se kp cm : Int32) (PL : List Nat) (pf : Nat → va_E) (sn : Nat) (hsn : sn ≤ 6) (es : se = nI sn) (L : Nat → Nat) (HL : zHL ln L) (HV : ∀ f, f < 6 → zvs st f (L f)) (hOK : zOK st L N sn) (Gt : Nat → Int32) (hGt : zOK st L Gt 6) (n : Nat) (hn : n ≤ 40) (en : cm = nI n) (co fo bo : Nat → Nat) (kF fF sF lh mF : Nat → Int32) (HC : zPC PL pf fc co fo bo kF fF sF lh mF n) (hfo : ∀ i, i < n → fo i < 6) (x : Int32) (sz : Nat) : zq_mu l D cI cZ cW cC yX3_listed wsX3_listed ({ frames := 6, cells := 0, slots := 0, locals := 142 } : Room) [.ref (ad 0), .int x] ((cX cI cW cC ad st ln N fs fc hm se kp cm) ++ va_pl PL pf) sz (fun v w1 => ((∃ c xn, xn < 2 ^ 31 ∧ x = nI xn ∧ zLi (zhar mF (zdn Gt fo kF fF sF)) n xn c ∧ v = some (.int (nI c))) ∨ ((¬ ∃ c xn, xn < 2 ^ 31 ∧ x = nI xn ∧ zLi (zhar mF (zdn Gt fo kF fF sF)) n xn c) ∧ v = some (.int (-1)))) ∧ ∃ (N3 : Nat → Int32) (sn3 : Nat) (h3 : Nat → Int32), w1 = ((cX cI cW cC ad st ln N3 fs fc h3 (nI sn3) kp cm) ++ va_pl PL pf) ∧ sn3 ≤ 6 ∧ zOK st L N3 sn3) 0 0 := by
  refine zq_muI (own := RX3) (by decide) rfl rfl (Nat.le_of_ble_eq_true rfl) ?_
  intro p e s m below meth c Q A ls hsz hF hin hA hP hK hD hS hl ret
  obtain ⟨hx, hb, hml, hown, hts⟩ := hF
  have hl : lv_has ls 3 [(0, .ref (ad 0)), (1, .int x)] := hl
  subst es
  refine lv_iload_n hx hb dX3_listed_0 rfl (lv_at hl 1 rfl) ?_
  refine lv_if_lt (tgt := 12) hx hb dX3_listed_1 (by decide) (fun c1 => ?_) (fun c1 => ?_)
  · refine lv_iconst (v := (-1 : Int32)) hx hb dX3_listed_12 (by decide) ?_
    exact ret _ _ _ _ _ _ (by exact ⟨Or.inr ⟨(fun ⟨d1, x2, h0, e, h1⟩ => nI_pos h0 (e ▸ c1)), rfl⟩, _, sn, _, rfl, hsn, hOK⟩) hP hD hS dX3_listed_13
  · obtain ⟨xn, hxn, rfl⟩ := nI_of c1
    refine lv_iload_n hx hb dX3_listed_4 rfl (lv_at hl 1 rfl) ?_
    refine lv_aload_n hx hb dX3_listed_5 rfl (lv_at hl 0 rfl) ?_
    refine zq_get hx hb hts in_X3_listed_X3 hown hK hP 0 rfl rfl 6 (by decide) (hts _ w_X3_listed__fieldLink_RX3_40_WordsBeside_came_I__48f8c3) rfl dX3_listed_6 ?_
    refine zq_te (y := (nI n)) en ?_
    refine lv_icmp_lt (tgt := 14) hx hb dX3_listed_9 (by decide) (fun c9 => ?_) (fun c9 => ?_)
    · have h9 := zlt c9
      refine lv_aload_n hx hb dX3_listed_14 rfl (lv_at hl 0 rfl) ?_
      refine zq_cM (rest := []) ⟨hx, hb, hml, hown, hts⟩ (c_X3_fillListedHarms l D cI cZ cW cC ad st ln N fs fc hm (nI sn) kp cm PL pf sn hsn rfl L HL HV hOK Gt hGt n hn en co fo bo kF fF sF lh mF HC hfo _) (cwV 0 hts gX3_listed_X3_fillListedHarms rfl rfl rfl (by decide +kernel) ⟨Nat.le_of_ble_eq_true rfl, Nat.le_of_ble_eq_true rfl⟩) hK hP hD hS hA 3 0 rfl rfl rfl hl.1 rfl (Nat.le_of_ble_eq_true rfl) dX3_listed_15 ⟨Nat.le_of_ble_eq_true rfl, Nat.le_of_ble_eq_true rfl⟩ (fun v w1 H locs hv hP hD hS => ?_)
      obtain ⟨rfl, N3, sn3, h3, rfl, hs3, hO3, hh⟩ := hv
      have hP : va_P D vwCl ((cX cI cW cC ad st ln N3 fs fc h3 (nI sn3) kp cm) ++ va_pl PL pf) H := hP
      have hD : va_D A ((cX cI cW cC ad st ln N3 fs fc h3 (nI sn3) kp cm) ++ va_pl PL pf) := hD
      refine W.eq (g2 := F0 m 18 ls []) rfl ?_
      refine lv_iconst (v := (nI 0)) hx hb dX3_listed_18 (by decide) ?_
      refine lv_istore_n (lv' := [(2, .int (nI 0)), (0, .ref (ad 0)), (1, .int (nI xn))]) hx hb dX3_listed_19 rfl hl (by decide) rfl (fun ls hl => ?_)
      have loop20 : ∀ (fu20 : Nat) (d1 : Nat) (H : Heap) (locs : List Loc) (ls : Array Slot), (n - d1) < fu20 → (d1 ≤ n) → (∀ q, q < d1 → ¬ zLi (zhar mF (zdn Gt fo kF fF sF)) n xn q) → va_P D vwCl ((cX cI cW cC ad st ln N3 fs fc h3 (nI sn3) kp cm) ++ va_pl PL pf) H → va_D A ((cX cI cW cC ad st ln N3 fs fc h3 (nI sn3) kp cm) ++ va_pl PL pf) → va_S A s.heap H locs → lv_has ls 3 [(0, .ref (ad 0)), (1, .int (nI xn)), (2, .int (nI d1))] → W p l e ({ frames := 6, cells := 0, slots := 0, locals := 142 } : Room) s m ([.ref (ad 0), .int (nI xn)] : List Value).toArray below meth c H locs 0 0 Q (F0 m 20 ls []) := by
        intro fu20
        induction fu20 with
        | zero => intro _ _ _ _ hmu; exact absurd hmu (Nat.not_lt_zero _)
        | succ fu20 ih20 =>
          intro d1 H locs ls hmu20 hd1 hno hP hD hS hl
          refine lv_iload_n hx hb dX3_listed_20 rfl (lv_at hl 2 rfl) ?_
          refine lv_aload_n hx hb dX3_listed_21 rfl (lv_at hl 0 rfl) ?_
          refine zq_get hx hb hts in_X3_listed_X3 hown hK hP 0 rfl rfl 6 (by decide) (hts _ w_X3_listed__fieldLink_RX3_40_WordsBeside_came_I__48f8c3) rfl dX3_listed_22 ?_
          refine zq_te (y := (nI n)) en ?_
          refine lv_icmp_ge (tgt := 54) hx hb dX3_listed_25 (by decide) (fun c25 => ?_) (fun c25 => ?_)
          · have h25 := zle c25
            refine lv_iconst (v := (-1 : Int32)) hx hb dX3_listed_54 (by decide) ?_
            exact ret _ _ _ _ _ _ (by exact ⟨Or.inr ⟨(fun ⟨c2, x2, h0, e, h1⟩ => by have e2 := zeq e hxn h0; subst e2; exact hno c2 (by have := h1.1; omega) h1), rfl⟩, _, sn3, _, rfl, hs3, hO3⟩) hP hD hS dX3_listed_55
          · have h25 := znle c25
            have hhl := zhar_le mF (zdn Gt fo kF fF sF) d1
            have hfl := fb_ct_le (zah (zhar mF (zdn Gt fo kF fF sF)) d1) n
            refine lv_aload_n hx hb dX3_listed_28 rfl (lv_at hl 0 rfl) ?_
            refine zq_get hx hb hts in_X3_listed_X3 hown hK hP 0 rfl rfl 7 (by decide) (hts _ w_X3_listed__fieldLink_RX3_43_WordsBeside_listedHarms_I__517f26) rfl dX3_listed_29 ?_
            refine lv_iload_n hx hb dX3_listed_32 rfl (lv_at hl 2 rfl) ?_
            refine zq_ild hx hb hK hP 8 rfl d1 rfl (by omega) (by decide) dX3_listed_33 ?_
            refine zq_te (y := (nI ((zhar mF (zdn Gt fo kF fF sF)) d1))) (hh d1 (by omega)) ?_
            refine lv_if_le (tgt := 48) hx hb dX3_listed_34 (by decide) (fun c34 => ?_) (fun c34 => ?_)
            · refine lv_iinc (v := (nI (d1 + 1))) (lv' := [(2, .int (nI (d1 + 1))), (0, .ref (ad 0)), (1, .int (nI xn))]) hx hb dX3_listed_48 hl (k := 2) rfl ((nI_succ _).symm) (by decide) rfl (fun ls hl => ?_)
              refine lv_goto (tgt := 20) hx hb dX3_listed_51 (by decide) ?_
              exact ih20 (d1 + 1) _ _ ls (by omega) (by omega) (lt_s hno (fun q => by have := zle (show nI ((zhar mF (zdn Gt fo kF fF sF)) d1) ≤ nI 0 from c34); have := q.2.1; omega)) hP hD hS (lv_sub hl [1, 2, 0] rfl)
            · refine lv_aload_n hx hb dX3_listed_37 rfl (lv_at hl 0 rfl) ?_
              refine lv_iload_n hx hb dX3_listed_38 rfl (lv_at hl 2 rfl) ?_
              refine zq_cV (rest := []) ⟨hx, hb, hml, hown, hts⟩ (c_X3_listedAheadOf l D cI cZ cW cC ad st ln N3 fs fc h3 (nI sn3) kp cm PL pf n hn en (zhar mF (zdn Gt fo kF fF sF)) hh (zhar_le mF (zdn Gt fo kF fF sF)) d1 (by omega)) (cwV 1 hts gX3_listed_X3_listedAheadOf rfl rfl rfl (by decide +kernel) ⟨Nat.le_of_ble_eq_true rfl, Nat.le_of_ble_eq_true rfl⟩) hK hP 3 0 rfl rfl rfl hl.1 rfl (Nat.le_of_ble_eq_true rfl) dX3_listed_39 ⟨Nat.le_of_ble_eq_true rfl, Nat.le_of_ble_eq_true rfl⟩ (fun v hv => ?_)
              obtain rfl := hv
              refine W.eq (g2 := F0 m 42 ls [.int (nI (fb_ct (zah (zhar mF (zdn Gt fo kF fF sF)) d1) n))]) rfl ?_
              refine lv_iload_n hx hb dX3_listed_42 rfl (lv_at hl 1 rfl) ?_
              refine lv_icmp_ne (tgt := 48) hx hb dX3_listed_43 (by decide) (fun c43 => ?_) (fun c43 => ?_)
              · have h43 := zne c43
                refine lv_iinc (v := (nI (d1 + 1))) (lv' := [(2, .int (nI (d1 + 1))), (0, .ref (ad 0)), (1, .int (nI xn))]) hx hb dX3_listed_48 hl (k := 2) rfl ((nI_succ _).symm) (by decide) rfl (fun ls hl => ?_)
                refine lv_goto (tgt := 20) hx hb dX3_listed_51 (by decide) ?_
                exact ih20 (d1 + 1) _ _ ls (by omega) (by omega) (lt_s hno (fun q => h43 q.2.2)) hP hD hS (lv_sub hl [1, 2, 0] rfl)
              · have h43 := zeq c43
                refine lv_iload_n hx hb dX3_listed_46 rfl (lv_at hl 2 rfl) ?_
                exact ret _ _ _ _ _ _ (by exact ⟨Or.inl ⟨d1, xn, hxn, rfl, ⟨by omega, by have := znle (show ¬ nI ((zhar mF (zdn Gt fo kF fF sF)) d1) ≤ nI 0 from c34); omega, h43⟩, rfl⟩, _, sn3, _, rfl, hs3, hO3⟩) hP hD hS dX3_listed_47
      exact loop20 (n + 1) 0 _ _ ls (by omega) (by omega) (fun q hq => absurd hq (Nat.not_lt_zero q)) hP hD hS (lv_sub hl [1, 2, 0] rfl)
    · have h9 := znlt c9
      refine lv_iconst (v := (-1 : Int32)) hx hb dX3_listed_12 (by decide) ?_
      exact ret _ _ _ _ _ _ (by exact ⟨Or.inr ⟨(fun ⟨d1, x2, h0, e, h1⟩ => by have e2 := zeq e hxn h0; have := zLi_lt h1; omega), rfl⟩, _, sn, _, rfl, hsn, hOK⟩) hP hD hS dX3_listed_13
