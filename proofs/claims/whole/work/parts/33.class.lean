/-! WordsBeside: was, told, denied, mend -/
theorem zblk {G G' : Nat → Int32} {f : Nat} (h : ∀ j, j < 1536 → G j = G' j) (hf : f < 6) : ∀ r, r < 256 → G (256 * f + r) = G' (256 * f + r) := fun r hr => h _ (by omega)
theorem zref_cong {G G' : Nat → Int32} {f : Nat} (h : ∀ r, r < 256 → G (256 * f + r) = G' (256 * f + r)) : ∀ r, r < 256 → zref G f r = zref G' f r := fun r hr => by
  unfold zref
  rw [h r hr]
theorem zlst_cong {G G' : Nat → Int32} {f : Nat} (h : ∀ r, r < 256 → G (256 * f + r) = G' (256 * f + r)) : ∀ n, n ≤ 256 → zlst G f n = zlst G' f n
  | 0, _ => rfl
  | n + 1, hn => by rw [zlst, zlst, zlst_cong h n (by omega), h n (by omega)]
theorem zmst_cong {G G' : Nat → Int32} {f : Nat} (h : ∀ r, r < 256 → G (256 * f + r) = G' (256 * f + r)) : ∀ n, n ≤ 256 → zmst G f n = zmst G' f n
  | 0, _ => rfl
  | n + 1, hn => by rw [zmst, zmst, zmst_cong h n (by omega), h n (by omega)]
theorem zgc_cong {G G' : Nat → Int32} {f : Nat} (h : ∀ r, r < 256 → G (256 * f + r) = G' (256 * f + r)) : ∀ n, n ≤ 256 → zgc G f n = zgc G' f n
  | 0, _ => rfl
  | n + 1, hn => by rw [zgc, zgc, zgc_cong h n (by omega), h n (by omega)]
theorem zRF_cong {G G' : Nat → Int32} {f : Nat} (h : ∀ r, r < 256 → G (256 * f + r) = G' (256 * f + r)) : zRF G f = zRF G' f := by
  unfold zRF
  rw [fb_ct_cong (zref_cong h), fa_first_cong (zref_cong h)]
theorem zm1_cong {G G' : Nat → Int32} {f : Nat} {kd p : Int32} (h : ∀ j, j < 1536 → G j = G' j) (hf : f < 6) (h5 : kd = 5 → zr 256 p) : zm1 G f kd p = zm1 G' f kd p := by
  have hb := zblk h hf
  unfold zm1
  rw [zlst_cong hb 256 (by omega), zgc_cong hb 256 (by omega), zRF_cong hb]
  by_cases e : kd = 5
  · obtain ⟨j, hj, rfl⟩ := h5 e
    rw [nI_clamp (by omega), hb j hj]
  · simp only [e, if_false]
theorem zm2_cong {G G' : Nat → Int32} {f : Nat} {kd : Int32} (h : ∀ j, j < 1536 → G j = G' j) (hf : f < 6) : zm2 G f kd = zm2 G' f kd := by
  unfold zm2
  rw [zmst_cong (zblk h hf) 256 (by omega)]

theorem w_X3_was__constant_RX3_99_2147483648__ebb59d : (.constant RX3 99 (-2147483648) : Cond) ∈ wsX3_was := by decide +kernel
set_option maxHeartbeats 4000000 in
set_option maxRecDepth 100000 in
theorem c_X3_was (l : Launch) (D : va_G) (cI cZ cW cC : ClassId) (ad : Nat → Nat) (st ln N : Nat → Int32) (fs fc : Nat → Option Nat) (hm : Nat → Int32) (se kp cm : Int32) (PL : List Nat) (pf : Nat → va_E) (k : Nat) (hk : k ≤ 30) (ek : kp = nI k) (wo go : Nat → Nat) (Gs : Nat → Nat → Int32) (HW : zPW cI PL pf fs wo go Gs k) (t fx x y : Int32) : zq_ro l D cI cZ cW cC yX3_was wsX3_was ({ frames := 1, cells := 0, slots := 0, locals := 22 } : Room) [.ref (ad 0), .int t, .int fx, .int x, .int y] ((cX cI cW cC ad st ln N fs fc hm se kp cm) ++ va_pl PL pf) (fun v => v = some (.int (zwas Gs k t fx x y))) := by
  refine zq_roI (own := RX3) (by decide) rfl rfl (Nat.le_of_ble_eq_true rfl) ?_
  intro p e s m below meth c Q ls hF hP hK hl ret
  obtain ⟨hx, hb, hml, hown, hts⟩ := hF
  have hl : lv_has ls 6 [(0, .ref (ad 0)), (1, .int t), (2, .int fx), (3, .int x), (4, .int y)] := hl
  refine lv_aload_n hx hb dX3_was_0 rfl (lv_at hl 0 rfl) ?_
  refine lv_iload_n hx hb dX3_was_1 rfl (lv_at hl 1 rfl) ?_
  refine zq_cV (rest := []) ⟨hx, hb, hml, hown, hts⟩ (c_X3_keptState l D cI cZ cW cC ad st ln N fs fc hm se kp cm PL pf k hk ek wo go Gs HW t) (cwV 1 hts gX3_was_X3_keptState rfl rfl rfl (by decide +kernel) ⟨Nat.le_of_ble_eq_true rfl, Nat.le_of_ble_eq_true rfl⟩) hK hP 3 0 rfl rfl rfl hl.1 rfl (Nat.le_of_ble_eq_true rfl) dX3_was_2 ⟨Nat.le_of_ble_eq_true rfl, Nat.le_of_ble_eq_true rfl⟩ (fun v hv => ?_)
  rcases hv with ⟨t1, ht1, rfl, rfl⟩ | ⟨hyt, rfl⟩
  · refine W.eq (g2 := F0 m 5 ls [.ref (wo t1)]) rfl ?_
    refine lv_astore (lv' := [(5, .ref (wo t1)), (0, .ref (ad 0)), (1, .int (nI t1)), (2, .int fx), (3, .int x), (4, .int y)]) hx hb dX3_was_5 hl (by decide) rfl (fun ls hl => ?_)
    refine lv_aload hx hb dX3_was_7 (lv_at hl 0 rfl) ?_
    refine lv_ifnonnull (tgt := 17) hx hb dX3_was_9 (by decide) ?_
    refine lv_aload hx hb dX3_was_17 (lv_at hl 0 rfl) ?_
    refine lv_iload_n hx hb dX3_was_19 rfl (lv_at hl 3 rfl) ?_
    refine lv_iload_n hx hb dX3_was_20 rfl (lv_at hl 4 rfl) ?_
    refine lv_iload hx hb dX3_was_21 (lv_at hl 5 rfl) ?_
    refine zq_cS (rest := [.int fx, .ref (wo t1)]) ⟨hx, hb, hml, hown, hts⟩ (c_X3_runNumber l D cI cZ cW cC x y) (va_cwS 2 hts gX3_was_X3_runNumber rfl rfl rfl (by decide +kernel) ⟨Nat.le_of_ble_eq_true rfl, Nat.le_of_ble_eq_true rfl⟩) hK (fun k q h => by simp at h) rfl hl.1 rfl (Nat.le_of_ble_eq_true rfl) dX3_was_23 ⟨Nat.le_of_ble_eq_true rfl, Nat.le_of_ble_eq_true rfl⟩ (fun v hv => ?_)
    rcases hv with ⟨i, j, hi, hj, rfl, rfl, rfl⟩ | ⟨rfl, hyr⟩
    · refine W.eq (g2 := F0 m 26 ls [.int (nI (16 * i + j)), .int fx, .ref (wo t1)]) rfl ?_
      refine zq_cV (rest := []) ⟨hx, hb, hml, hown, hts⟩ (c_X2_given l D cI cZ cW cC (wo t1) (go t1) (Gs t1) fx (nI (16 * i + j))) (cwV 2 hts gX3_was_X2_given rfl rfl rfl (by decide +kernel) ⟨Nat.le_of_ble_eq_true rfl, Nat.le_of_ble_eq_true rfl⟩) hK (zP_2 (zP_pl hP (HW t1 (by omega)).2.1 (HW t1 (by omega)).2.2.1) (zP_pl hP (HW t1 (by omega)).2.2.2.1 (HW t1 (by omega)).2.2.2.2)) 2 0 rfl rfl rfl hl.1 rfl (Nat.le_of_ble_eq_true rfl) dX3_was_26 ⟨Nat.le_of_ble_eq_true rfl, Nat.le_of_ble_eq_true rfl⟩ (fun v hv => ?_)
      obtain rfl := hv
      refine W.eq (g2 := F0 m 29 ls [.int (zg (Gs t1) fx (nI (16 * i + j)))]) rfl ?_
      exact ret _ _ _ (by rw [zwas_in (by omega) (by omega), zrun_g1 hi hj]) dX3_was_29
    · refine W.eq (g2 := F0 m 26 ls [.int (-1 : Int32), .int fx, .ref (wo t1)]) rfl ?_
      refine zq_cV (rest := []) ⟨hx, hb, hml, hown, hts⟩ (c_X2_given l D cI cZ cW cC (wo t1) (go t1) (Gs t1) fx (-1 : Int32)) (cwV 2 hts gX3_was_X2_given rfl rfl rfl (by decide +kernel) ⟨Nat.le_of_ble_eq_true rfl, Nat.le_of_ble_eq_true rfl⟩) hK (zP_2 (zP_pl hP (HW t1 (by omega)).2.1 (HW t1 (by omega)).2.2.1) (zP_pl hP (HW t1 (by omega)).2.2.2.1 (HW t1 (by omega)).2.2.2.2)) 2 0 rfl rfl rfl hl.1 rfl (Nat.le_of_ble_eq_true rfl) dX3_was_26 ⟨Nat.le_of_ble_eq_true rfl, Nat.le_of_ble_eq_true rfl⟩ (fun v hv => ?_)
      obtain rfl := hv
      refine W.eq (g2 := F0 m 29 ls [.int (zg (Gs t1) fx (-1 : Int32))]) rfl ?_
      exact ret _ _ _ (by rw [zwas_in (by omega) (by omega), zrun_g2 hyr]) dX3_was_29
  · refine W.eq (g2 := F0 m 5 ls [.null]) rfl ?_
    refine lv_astoreN (lv' := [(5, .null), (0, .ref (ad 0)), (1, .int t), (2, .int fx), (3, .int x), (4, .int y)]) hx hb dX3_was_5 hl (by decide) rfl (fun ls hl => ?_)
    refine lv_aloadN hx hb dX3_was_7 (lv_at hl 0 rfl) ?_
    refine lv_ifnonnullN hx hb dX3_was_9 ?_
    refine lv_ldc (v := (-2147483648 : Int32)) hx hb hown (hts _ w_X3_was__constant_RX3_99_2147483648__ebb59d) dX3_was_12 ?_
    refine lv_goto (tgt := 29) hx hb dX3_was_14 (by decide) ?_
    exact ret _ _ _ (by rw [zwas_no hyt]) dX3_was_29
theorem w_X3_told__constant_RX3_99_2147483648__ebb59d : (.constant RX3 99 (-2147483648) : Cond) ∈ wsX3_told := by decide +kernel
theorem w_X3_told__fieldLink_RX3_118_WordsBeside_Claim_function_I__d67073 : (.fieldLink RX3 118 "WordsBeside$Claim" "function" "I" : Cond) ∈ wsX3_told := by decide +kernel
theorem w_X3_told__fieldLink_RX3_121_WordsBeside_Claim_kind_I__be85f9 : (.fieldLink RX3 121 "WordsBeside$Claim" "kind" "I" : Cond) ∈ wsX3_told := by decide +kernel
theorem w_X3_told__fieldLink_RX3_124_WordsBeside_Claim_p_I__13cf07 : (.fieldLink RX3 124 "WordsBeside$Claim" "p" "I" : Cond) ∈ wsX3_told := by decide +kernel
theorem w_X3_told__fieldLink_RX3_127_WordsBeside_Claim_q_I__34e6aa : (.fieldLink RX3 127 "WordsBeside$Claim" "q" "I" : Cond) ∈ wsX3_told := by decide +kernel
theorem w_X3_told__fieldLink_RX3_134_WordsBeside_Claim_marked_Z__c3d21a : (.fieldLink RX3 134 "WordsBeside$Claim" "marked" "Z" : Cond) ∈ wsX3_told := by decide +kernel
theorem w_X3_told__fieldLink_RX3_92_WordsBeside_Claim_lastHeld_I__f6b92d : (.fieldLink RX3 92 "WordsBeside$Claim" "lastHeld" "I" : Cond) ∈ wsX3_told := by decide +kernel
theorem in_X3_told_X0 : ∀ w ∈ wsX00, w ∈ wsX3_told := fun _ h => List.mem_cons_of_mem _ (List.mem_append_left _ (List.mem_append_left _ (List.mem_append_left _ (List.mem_append_right _ h))))
set_option maxHeartbeats 4000000 in
set_option maxRecDepth 100000 in
theorem c_X3_told (l : Launch) (D : va_G) (cI cZ cW cC : ClassId) (ad : Nat → Nat) (st ln N : Nat → Int32) (fs fc : Nat → Option Nat) (hm : Nat → Int32) (se kp cm : Int32) (PL : List Nat) (pf : Nat → va_E) (sn : Nat) (hsn : sn ≤ 6) (es : se = nI sn) (L : Nat → Nat) (HL : zHL ln L) (HV : ∀ f, f < 6 → zvs st f (L f)) (hOK : zOK st L N sn) (Gt : Nat → Int32) (hGt : zOK st L Gt 6) (n : Nat) (hn : n ≤ 40) (en : cm = nI n) (co fo bo : Nat → Nat) (kF fF sF lh mF : Nat → Int32) (HC : zPC PL pf fc co fo bo kF fF sF lh mF n) (hfo : ∀ i, i < n → fo i < 6) (cl wh : Int32) (sz : Nat) : zq_mu l D cI cZ cW cC yX3_told wsX3_told ({ frames := 5, cells := 0, slots := 0, locals := 119 } : Room) [.ref (ad 0), .int cl, .int wh] ((cX cI cW cC ad st ln N fs fc hm se kp cm) ++ va_pl PL pf) sz (fun v w1 => v = some (.int (ztold n cl wh (fun i => zstd (zheld (zdn Gt fo kF fF sF i)) (lh i)) (fun i => nI (fb_ct (zdn Gt fo kF fF sF i) 256)) (fun i => nI (fo i)) kF fF sF lh mF)) ∧ ∃ (N3 : Nat → Int32) (sn3 : Nat), w1 = ((cX cI cW cC ad st ln N3 fs fc hm (nI sn3) kp cm) ++ va_pl PL pf) ∧ sn3 ≤ 6 ∧ zOK st L N3 sn3) 0 0 := by
  refine zq_muI (own := RX3) (by decide) rfl rfl (Nat.le_of_ble_eq_true rfl) ?_
  intro p e s m below meth c Q A ls hsz hF hin hA hP hK hD hS hl ret
  obtain ⟨hx, hb, hml, hown, hts⟩ := hF
  have hl : lv_has ls 4 [(0, .ref (ad 0)), (1, .int cl), (2, .int wh)] := hl
  subst es
  refine lv_aload_n hx hb dX3_told_0 rfl (lv_at hl 0 rfl) ?_
  refine lv_iload_n hx hb dX3_told_1 rfl (lv_at hl 1 rfl) ?_
  refine zq_cV (rest := []) ⟨hx, hb, hml, hown, hts⟩ (c_X3_claimAt l D cI cZ cW cC ad st ln N fs fc hm (nI sn) kp cm PL pf n hn en co fo bo kF fF sF lh mF HC cl) (cwV 1 hts gX3_told_X3_claimAt rfl rfl rfl (by decide +kernel) ⟨Nat.le_of_ble_eq_true rfl, Nat.le_of_ble_eq_true rfl⟩) hK hP 3 0 rfl rfl rfl hl.1 rfl (Nat.le_of_ble_eq_true rfl) dX3_told_2 ⟨Nat.le_of_ble_eq_true rfl, Nat.le_of_ble_eq_true rfl⟩ (fun v hv => ?_)
  rcases hv with ⟨i, hi, rfl, rfl⟩ | ⟨hyc, rfl⟩
  · refine W.eq (g2 := F0 m 5 ls [.ref (co i)]) rfl ?_
    have hfi := hfo i hi
    refine lv_astore_n (lv' := [(3, .ref (co i)), (0, .ref (ad 0)), (1, .int (nI i)), (2, .int wh)]) hx hb dX3_told_5 rfl hl (by decide) rfl (fun ls hl => ?_)
    refine lv_aload_n hx hb dX3_told_6 rfl (lv_at hl 0 rfl) ?_
    refine lv_ifnonnull (tgt := 13) hx hb dX3_told_7 (by decide) ?_
    refine lv_iload_n hx hb dX3_told_13 rfl (lv_at hl 3 rfl) ?_
    by_cases k14_0 : wh = (0 : Int32)
    · refine lv_tableIn (tgt := 60) hx hb dX3_told_14 (by rw [k14_0]; decide) (by rw [k14_0]; decide) (by rw [k14_0]; rfl) (by decide) ?_
      refine lv_aload_n hx hb dX3_told_60 rfl (lv_at hl 0 rfl) ?_
      refine lv_aload_n hx hb dX3_told_61 rfl (lv_at hl 1 rfl) ?_
      refine zq_cM (rest := [.ref (co i)]) ⟨hx, hb, hml, hown, hts⟩ (c_X3_present l D cI cZ cW cC ad st ln N fs fc hm (nI sn) kp cm PL pf L HL HV sn hsn rfl hOK _) (cwV 0 hts gX3_told_X3_present rfl rfl rfl (by decide +kernel) ⟨Nat.le_of_ble_eq_true rfl, Nat.le_of_ble_eq_true rfl⟩) hK hP hD hS hA 3 0 rfl rfl rfl hl.1 rfl (Nat.le_of_ble_eq_true rfl) dX3_told_62 ⟨Nat.le_of_ble_eq_true rfl, Nat.le_of_ble_eq_true rfl⟩ (fun v w1 H locs hv hP hD hS => ?_)
      obtain ⟨rfl, N2, rfl, hN2⟩ := hv
      have hP : va_P D vwCl ((cX cI cW cC ad st ln N2 fs fc hm (nI 6) kp cm) ++ va_pl PL pf) H := hP
      have hD : va_D A ((cX cI cW cC ad st ln N2 fs fc hm (nI 6) kp cm) ++ va_pl PL pf) := hD
      refine W.eq (g2 := F0 m 65 ls [.ref (ad 4), .ref (co i)]) rfl ?_
      have eN : ∀ j, j < 1536 → N2 j = Gt j := zOK_one (by omega) hN2 hGt HV
      refine zq_cS (rest := []) ⟨hx, hb, hml, hown, hts⟩ (c_X3_standing l D cI cZ cW cC (co i) (ad 4) (ad 5) N2 (fo i) hfi (kF i) (fF i) (sF i) (nI (bo i)) (lh i) (mF i)) (va_cwS 2 hts gX3_told_X3_standing rfl rfl rfl (by decide +kernel) ⟨Nat.le_of_ble_eq_true rfl, Nat.le_of_ble_eq_true rfl⟩) hK (zP_3 (zP_pl hP (HC.1 i hi).2.1 (HC.1 i hi).2.2) (hP 4 _ rfl) (hP 5 _ rfl)) rfl hl.1 rfl (Nat.le_of_ble_eq_true rfl) dX3_told_65 ⟨Nat.le_of_ble_eq_true rfl, Nat.le_of_ble_eq_true rfl⟩ (fun v hv => ?_)
      obtain rfl := hv
      refine W.eq (g2 := F0 m 68 ls [.int (zstd (zheld (zden N2 (fo i) (kF i) (fF i) (sF i))) (lh i))]) rfl ?_
      exact ret _ _ _ _ _ _ (by exact ⟨by rw [ztold_in hi hn]; simp [k14_0, zdn, zheld_cong eN hfi, zct_cong eN hfi], _, 6, rfl, by omega, hN2⟩) hP hD hS dX3_told_68
    · by_cases k14_1 : wh = (1 : Int32)
      · refine lv_tableIn (tgt := 69) hx hb dX3_told_14 (by rw [k14_1]; decide) (by rw [k14_1]; decide) (by rw [k14_1]; rfl) (by decide) ?_
        refine lv_aload_n hx hb dX3_told_69 rfl (lv_at hl 0 rfl) ?_
        obtain ⟨kq, hq⟩ := zpl_at (X := (cX cI cW cC ad st ln N fs fc hm (nI sn) kp cm)) (HC.1 i hi).2.1 (HC.1 i hi).2.2
        refine zq_get hx hb hts in_X3_told_X0 hown hK hP kq hq rfl 0 (by decide) (hts _ w_X3_told__fieldLink_RX3_118_WordsBeside_Claim_function_I__d67073) rfl dX3_told_70 ?_
        exact ret _ _ _ _ _ _ (by exact ⟨by rw [ztold_in hi hn]; simp [k14_1, zdn], _, sn, rfl, hsn, hOK⟩) hP hD hS dX3_told_73
      · by_cases k14_2 : wh = (2 : Int32)
        · refine lv_tableIn (tgt := 74) hx hb dX3_told_14 (by rw [k14_2]; decide) (by rw [k14_2]; decide) (by rw [k14_2]; rfl) (by decide) ?_
          refine lv_aload_n hx hb dX3_told_74 rfl (lv_at hl 0 rfl) ?_
          obtain ⟨kq, hq⟩ := zpl_at (X := (cX cI cW cC ad st ln N fs fc hm (nI sn) kp cm)) (HC.1 i hi).2.1 (HC.1 i hi).2.2
          refine zq_get hx hb hts in_X3_told_X0 hown hK hP kq hq rfl 1 (by decide) (hts _ w_X3_told__fieldLink_RX3_121_WordsBeside_Claim_kind_I__be85f9) rfl dX3_told_75 ?_
          exact ret _ _ _ _ _ _ (by exact ⟨by rw [ztold_in hi hn]; simp [k14_2, zdn], _, sn, rfl, hsn, hOK⟩) hP hD hS dX3_told_78
        · by_cases k14_3 : wh = (3 : Int32)
          · refine lv_tableIn (tgt := 79) hx hb dX3_told_14 (by rw [k14_3]; decide) (by rw [k14_3]; decide) (by rw [k14_3]; rfl) (by decide) ?_
            refine lv_aload_n hx hb dX3_told_79 rfl (lv_at hl 0 rfl) ?_
            obtain ⟨kq, hq⟩ := zpl_at (X := (cX cI cW cC ad st ln N fs fc hm (nI sn) kp cm)) (HC.1 i hi).2.1 (HC.1 i hi).2.2
            refine zq_get hx hb hts in_X3_told_X0 hown hK hP kq hq rfl 2 (by decide) (hts _ w_X3_told__fieldLink_RX3_124_WordsBeside_Claim_p_I__13cf07) rfl dX3_told_80 ?_
            exact ret _ _ _ _ _ _ (by exact ⟨by rw [ztold_in hi hn]; simp [k14_3, zdn], _, sn, rfl, hsn, hOK⟩) hP hD hS dX3_told_83
          · by_cases k14_4 : wh = (4 : Int32)
            · refine lv_tableIn (tgt := 84) hx hb dX3_told_14 (by rw [k14_4]; decide) (by rw [k14_4]; decide) (by rw [k14_4]; rfl) (by decide) ?_
              refine lv_aload_n hx hb dX3_told_84 rfl (lv_at hl 0 rfl) ?_
              obtain ⟨kq, hq⟩ := zpl_at (X := (cX cI cW cC ad st ln N fs fc hm (nI sn) kp cm)) (HC.1 i hi).2.1 (HC.1 i hi).2.2
              refine zq_get hx hb hts in_X3_told_X0 hown hK hP kq hq rfl 3 (by decide) (hts _ w_X3_told__fieldLink_RX3_127_WordsBeside_Claim_q_I__34e6aa) rfl dX3_told_85 ?_
              exact ret _ _ _ _ _ _ (by exact ⟨by rw [ztold_in hi hn]; simp [k14_4, zdn], _, sn, rfl, hsn, hOK⟩) hP hD hS dX3_told_88
            · by_cases k14_5 : wh = (5 : Int32)
              · refine lv_tableIn (tgt := 89) hx hb dX3_told_14 (by rw [k14_5]; decide) (by rw [k14_5]; decide) (by rw [k14_5]; rfl) (by decide) ?_
                refine lv_aload_n hx hb dX3_told_89 rfl (lv_at hl 0 rfl) ?_
                refine lv_aload_n hx hb dX3_told_90 rfl (lv_at hl 1 rfl) ?_
                refine zq_cM (rest := [.ref (co i)]) ⟨hx, hb, hml, hown, hts⟩ (c_X3_present l D cI cZ cW cC ad st ln N fs fc hm (nI sn) kp cm PL pf L HL HV sn hsn rfl hOK _) (cwV 0 hts gX3_told_X3_present rfl rfl rfl (by decide +kernel) ⟨Nat.le_of_ble_eq_true rfl, Nat.le_of_ble_eq_true rfl⟩) hK hP hD hS hA 3 0 rfl rfl rfl hl.1 rfl (Nat.le_of_ble_eq_true rfl) dX3_told_91 ⟨Nat.le_of_ble_eq_true rfl, Nat.le_of_ble_eq_true rfl⟩ (fun v w1 H locs hv hP hD hS => ?_)
                obtain ⟨rfl, N2, rfl, hN2⟩ := hv
                have hP : va_P D vwCl ((cX cI cW cC ad st ln N2 fs fc hm (nI 6) kp cm) ++ va_pl PL pf) H := hP
                have hD : va_D A ((cX cI cW cC ad st ln N2 fs fc hm (nI 6) kp cm) ++ va_pl PL pf) := hD
                refine W.eq (g2 := F0 m 94 ls [.ref (ad 4), .ref (co i)]) rfl ?_
                have eN : ∀ j, j < 1536 → N2 j = Gt j := zOK_one (by omega) hN2 hGt HV
                refine zq_cV (rest := []) ⟨hx, hb, hml, hown, hts⟩ (c_X0_harmIn l D cI cZ cW cC (co i) (ad 4) (ad 5) N2 (fo i) hfi (kF i) (fF i) (sF i) (nI (bo i)) (lh i) (mF i)) (cwV 1 hts gX3_told_X0_harmIn rfl rfl rfl (by decide +kernel) ⟨Nat.le_of_ble_eq_true rfl, Nat.le_of_ble_eq_true rfl⟩) hK (zP_3 (zP_pl hP (HC.1 i hi).2.1 (HC.1 i hi).2.2) (hP 4 _ rfl) (hP 5 _ rfl)) 0 0 rfl rfl rfl hl.1 rfl (Nat.le_of_ble_eq_true rfl) dX3_told_94 ⟨Nat.le_of_ble_eq_true rfl, Nat.le_of_ble_eq_true rfl⟩ (fun v hv => ?_)
                obtain rfl := hv
                refine W.eq (g2 := F0 m 97 ls [.int (nI (fb_ct (zden N2 (fo i) (kF i) (fF i) (sF i)) 256))]) rfl ?_
                exact ret _ _ _ _ _ _ (by exact ⟨by rw [ztold_in hi hn]; simp [k14_5, zdn, zheld_cong eN hfi, zct_cong eN hfi], _, 6, rfl, by omega, hN2⟩) hP hD hS dX3_told_97
              · by_cases k14_6 : wh = (6 : Int32)
                · refine lv_tableIn (tgt := 98) hx hb dX3_told_14 (by rw [k14_6]; decide) (by rw [k14_6]; decide) (by rw [k14_6]; rfl) (by decide) ?_
                  refine lv_aload_n hx hb dX3_told_98 rfl (lv_at hl 0 rfl) ?_
                  refine lv_aload_n hx hb dX3_told_99 rfl (lv_at hl 1 rfl) ?_
                  refine zq_cM (rest := [.ref (co i)]) ⟨hx, hb, hml, hown, hts⟩ (c_X3_present l D cI cZ cW cC ad st ln N fs fc hm (nI sn) kp cm PL pf L HL HV sn hsn rfl hOK _) (cwV 0 hts gX3_told_X3_present rfl rfl rfl (by decide +kernel) ⟨Nat.le_of_ble_eq_true rfl, Nat.le_of_ble_eq_true rfl⟩) hK hP hD hS hA 3 0 rfl rfl rfl hl.1 rfl (Nat.le_of_ble_eq_true rfl) dX3_told_100 ⟨Nat.le_of_ble_eq_true rfl, Nat.le_of_ble_eq_true rfl⟩ (fun v w1 H locs hv hP hD hS => ?_)
                  obtain ⟨rfl, N2, rfl, hN2⟩ := hv
                  have hP : va_P D vwCl ((cX cI cW cC ad st ln N2 fs fc hm (nI 6) kp cm) ++ va_pl PL pf) H := hP
                  have hD : va_D A ((cX cI cW cC ad st ln N2 fs fc hm (nI 6) kp cm) ++ va_pl PL pf) := hD
                  refine W.eq (g2 := F0 m 103 ls [.ref (ad 4), .ref (co i)]) rfl ?_
                  have eN : ∀ j, j < 1536 → N2 j = Gt j := zOK_one (by omega) hN2 hGt HV
                  refine zq_cS (rest := []) ⟨hx, hb, hml, hown, hts⟩ (c_X3_standing l D cI cZ cW cC (co i) (ad 4) (ad 5) N2 (fo i) hfi (kF i) (fF i) (sF i) (nI (bo i)) (lh i) (mF i)) (va_cwS 2 hts gX3_told_X3_standing rfl rfl rfl (by decide +kernel) ⟨Nat.le_of_ble_eq_true rfl, Nat.le_of_ble_eq_true rfl⟩) hK (zP_3 (zP_pl hP (HC.1 i hi).2.1 (HC.1 i hi).2.2) (hP 4 _ rfl) (hP 5 _ rfl)) rfl hl.1 rfl (Nat.le_of_ble_eq_true rfl) dX3_told_103 ⟨Nat.le_of_ble_eq_true rfl, Nat.le_of_ble_eq_true rfl⟩ (fun v hv => ?_)
                  obtain rfl := hv
                  refine W.eq (g2 := F0 m 106 ls [.int (zstd (zheld (zden N2 (fo i) (kF i) (fF i) (sF i))) (lh i))]) rfl ?_
                  refine lv_iconst (v := (2 : Int32)) hx hb dX3_told_106 (by decide) ?_
                  refine lv_icmp_ne (tgt := 119) hx hb dX3_told_107 (by decide) (fun c107 => ?_) (fun c107 => ?_)
                  · refine lv_iconst (v := (-1 : Int32)) hx hb dX3_told_119 (by decide) ?_
                    exact ret _ _ _ _ _ _ (by rw [zheld_cong eN hfi] at c107; exact ⟨by rw [ztold_in hi hn]; simp [k14_6, c107, zdn, zheld_cong eN hfi, zct_cong eN hfi], _, 6, rfl, by omega, hN2⟩) hP hD hS dX3_told_120
                  · refine lv_aload_n hx hb dX3_told_110 rfl (lv_at hl 0 rfl) ?_
                    obtain ⟨kq, hq⟩ := zpl_at (X := (cX cI cW cC ad st ln N2 fs fc hm (nI 6) kp cm)) (HC.1 i hi).2.1 (HC.1 i hi).2.2
                    refine zq_get hx hb hts in_X3_told_X0 hown hK hP kq hq rfl 5 (by decide) (hts _ w_X3_told__fieldLink_RX3_92_WordsBeside_Claim_lastHeld_I__f6b92d) rfl dX3_told_111 ?_
                    refine lv_iconst (v := (1 : Int32)) hx hb dX3_told_114 (by decide) ?_
                    refine lv_iadd hx hb dX3_told_115 ?_
                    refine lv_goto (tgt := 120) hx hb dX3_told_116 (by decide) ?_
                    exact ret _ _ _ _ _ _ (by rw [zheld_cong eN hfi] at c107; exact ⟨by rw [ztold_in hi hn]; simp [k14_6, c107, zdn, zheld_cong eN hfi, zct_cong eN hfi], _, 6, rfl, by omega, hN2⟩) hP hD hS dX3_told_120
                · by_cases k14_7 : wh = (7 : Int32)
                  · refine lv_tableIn (tgt := 121) hx hb dX3_told_14 (by rw [k14_7]; decide) (by rw [k14_7]; decide) (by rw [k14_7]; rfl) (by decide) ?_
                    refine lv_aload_n hx hb dX3_told_121 rfl (lv_at hl 0 rfl) ?_
                    obtain ⟨kq, hq⟩ := zpl_at (X := (cX cI cW cC ad st ln N fs fc hm (nI sn) kp cm)) (HC.1 i hi).2.1 (HC.1 i hi).2.2
                    refine zq_get hx hb hts in_X3_told_X0 hown hK hP kq hq rfl 6 (by decide) (hts _ w_X3_told__fieldLink_RX3_134_WordsBeside_Claim_marked_Z__c3d21a) rfl dX3_told_122 ?_
                    refine lv_if_eq (tgt := 132) hx hb dX3_told_125 (by decide) (fun c125 => ?_) (fun c125 => ?_)
                    · refine lv_iconst (v := (0 : Int32)) hx hb dX3_told_132 (by decide) ?_
                      exact ret _ _ _ _ _ _ (by exact ⟨by rw [ztold_in hi hn]; simp [k14_7, c125, zdn], _, sn, rfl, hsn, hOK⟩) hP hD hS dX3_told_133
                    · refine lv_iconst (v := (1 : Int32)) hx hb dX3_told_128 (by decide) ?_
                      refine lv_goto (tgt := 133) hx hb dX3_told_129 (by decide) ?_
                      exact ret _ _ _ _ _ _ (by exact ⟨by rw [ztold_in hi hn]; simp [k14_7, c125, zdn], _, sn, rfl, hsn, hOK⟩) hP hD hS dX3_told_133
                  · refine lv_tableOut (tgt := 134) hx hb dX3_told_14 (by have k14_0T := lv_neT k14_0 (a := 0) rfl; have k14_1T := lv_neT k14_1 (a := 1) rfl; have k14_2T := lv_neT k14_2 (a := 2) rfl; have k14_3T := lv_neT k14_3 (a := 3) rfl; have k14_4T := lv_neT k14_4 (a := 4) rfl; have k14_5T := lv_neT k14_5 (a := 5) rfl; have k14_6T := lv_neT k14_6 (a := 6) rfl; have k14_7T := lv_neT k14_7 (a := 7) rfl; omega) (by decide) ?_
                    refine lv_ldc (v := (-2147483648 : Int32)) hx hb hown (hts _ w_X3_told__constant_RX3_99_2147483648__ebb59d) dX3_told_134 ?_
                    exact ret _ _ _ _ _ _ (by exact ⟨by rw [ztold_in hi hn]; simp [k14_0, k14_1, k14_2, k14_3, k14_4, k14_5, k14_6, k14_7, zdn], _, sn, rfl, hsn, hOK⟩) hP hD hS dX3_told_136
  · refine W.eq (g2 := F0 m 5 ls [.null]) rfl ?_
    refine lv_astore_nN (lv' := [(3, .null), (0, .ref (ad 0)), (1, .int cl), (2, .int wh)]) hx hb dX3_told_5 rfl hl (by decide) rfl (fun ls hl => ?_)
    refine lv_aload_nN hx hb dX3_told_6 rfl (lv_at hl 0 rfl) ?_
    refine lv_ifnonnullN hx hb dX3_told_7 ?_
    refine lv_ldc (v := (-2147483648 : Int32)) hx hb hown (hts _ w_X3_told__constant_RX3_99_2147483648__ebb59d) dX3_told_10 ?_
    exact ret _ _ _ _ _ _ (by exact ⟨by rw [ztold_no hyc], _, sn, rfl, hsn, hOK⟩) hP hD hS dX3_told_12
set_option maxHeartbeats 4000000 in
set_option maxRecDepth 100000 in
theorem c_X3_denied (l : Launch) (D : va_G) (cI cZ cW cC : ClassId) (ad : Nat → Nat) (st ln N : Nat → Int32) (fs fc : Nat → Option Nat) (hm : Nat → Int32) (se kp cm : Int32) (PL : List Nat) (pf : Nat → va_E) (sn : Nat) (hsn : sn ≤ 6) (es : se = nI sn) (L : Nat → Nat) (HL : zHL ln L) (HV : ∀ f, f < 6 → zvs st f (L f)) (hOK : zOK st L N sn) (Gt : Nat → Int32) (hGt : zOK st L Gt 6) (n : Nat) (hn : n ≤ 40) (en : cm = nI n) (co fo bo : Nat → Nat) (kF fF sF lh mF : Nat → Int32) (HC : zPC PL pf fc co fo bo kF fF sF lh mF n) (hfo : ∀ i, i < n → fo i < 6) (cl : Int32) (sz : Nat) : zq_mu l D cI cZ cW cC yX3_denied wsX3_denied ({ frames := 5, cells := 0, slots := 0, locals := 119 } : Room) [.ref (ad 0), .int cl] ((cX cI cW cC ad st ln N fs fc hm se kp cm) ++ va_pl PL pf) sz (fun v w1 => v = some (.int (zdnd n cl (fun i => zdn Gt fo kF fF sF i))) ∧ ∃ (N3 : Nat → Int32) (sn3 : Nat), w1 = ((cX cI cW cC ad st ln N3 fs fc hm (nI sn3) kp cm) ++ va_pl PL pf) ∧ sn3 ≤ 6 ∧ zOK st L N3 sn3) 0 0 := by
  refine zq_muI (own := RX3) (by decide) rfl rfl (Nat.le_of_ble_eq_true rfl) ?_
  intro p e s m below meth c Q A ls hsz hF hin hA hP hK hD hS hl ret
  obtain ⟨hx, hb, hml, hown, hts⟩ := hF
  have hl : lv_has ls 3 [(0, .ref (ad 0)), (1, .int cl)] := hl
  subst es
  refine lv_aload_n hx hb dX3_denied_0 rfl (lv_at hl 0 rfl) ?_
  refine lv_iload_n hx hb dX3_denied_1 rfl (lv_at hl 1 rfl) ?_
  refine zq_cV (rest := []) ⟨hx, hb, hml, hown, hts⟩ (c_X3_claimAt l D cI cZ cW cC ad st ln N fs fc hm (nI sn) kp cm PL pf n hn en co fo bo kF fF sF lh mF HC cl) (cwV 1 hts gX3_denied_X3_claimAt rfl rfl rfl (by decide +kernel) ⟨Nat.le_of_ble_eq_true rfl, Nat.le_of_ble_eq_true rfl⟩) hK hP 3 0 rfl rfl rfl hl.1 rfl (Nat.le_of_ble_eq_true rfl) dX3_denied_2 ⟨Nat.le_of_ble_eq_true rfl, Nat.le_of_ble_eq_true rfl⟩ (fun v hv => ?_)
  rcases hv with ⟨i, hi, rfl, rfl⟩ | ⟨hyc, rfl⟩
  · refine W.eq (g2 := F0 m 5 ls [.ref (co i)]) rfl ?_
    have hfi := hfo i hi
    refine lv_astore_n (lv' := [(2, .ref (co i)), (0, .ref (ad 0)), (1, .int (nI i))]) hx hb dX3_denied_5 rfl hl (by decide) rfl (fun ls hl => ?_)
    refine lv_aload_n hx hb dX3_denied_6 rfl (lv_at hl 0 rfl) ?_
    refine lv_ifnonnull (tgt := 14) hx hb dX3_denied_7 (by decide) ?_
    refine lv_aload_n hx hb dX3_denied_14 rfl (lv_at hl 0 rfl) ?_
    refine lv_aload_n hx hb dX3_denied_15 rfl (lv_at hl 1 rfl) ?_
    refine zq_cM (rest := [.ref (co i)]) ⟨hx, hb, hml, hown, hts⟩ (c_X3_present l D cI cZ cW cC ad st ln N fs fc hm (nI sn) kp cm PL pf L HL HV sn hsn rfl hOK _) (cwV 0 hts gX3_denied_X3_present rfl rfl rfl (by decide +kernel) ⟨Nat.le_of_ble_eq_true rfl, Nat.le_of_ble_eq_true rfl⟩) hK hP hD hS hA 3 0 rfl rfl rfl hl.1 rfl (Nat.le_of_ble_eq_true rfl) dX3_denied_16 ⟨Nat.le_of_ble_eq_true rfl, Nat.le_of_ble_eq_true rfl⟩ (fun v w1 H locs hv hP hD hS => ?_)
    obtain ⟨rfl, N2, rfl, hN2⟩ := hv
    have hP : va_P D vwCl ((cX cI cW cC ad st ln N2 fs fc hm (nI 6) kp cm) ++ va_pl PL pf) H := hP
    have hD : va_D A ((cX cI cW cC ad st ln N2 fs fc hm (nI 6) kp cm) ++ va_pl PL pf) := hD
    refine W.eq (g2 := F0 m 19 ls [.ref (ad 4), .ref (co i)]) rfl ?_
    have eN : ∀ j, j < 1536 → N2 j = Gt j := zOK_one (by omega) hN2 hGt HV
    refine zq_cV (rest := []) ⟨hx, hb, hml, hown, hts⟩ (c_X0_firstDenialIn l D cI cZ cW cC (co i) (ad 4) (ad 5) N2 (fo i) hfi (kF i) (fF i) (sF i) (nI (bo i)) (lh i) (mF i)) (cwV 1 hts gX3_denied_X0_firstDenialIn rfl rfl rfl (by decide +kernel) ⟨Nat.le_of_ble_eq_true rfl, Nat.le_of_ble_eq_true rfl⟩) hK (zP_3 (zP_pl hP (HC.1 i hi).2.1 (HC.1 i hi).2.2) (hP 4 _ rfl) (hP 5 _ rfl)) 0 0 rfl rfl rfl hl.1 rfl (Nat.le_of_ble_eq_true rfl) dX3_denied_19 ⟨Nat.le_of_ble_eq_true rfl, Nat.le_of_ble_eq_true rfl⟩ (fun v hv => ?_)
    obtain rfl := hv
    refine W.eq (g2 := F0 m 22 ls [.int (if fa_first (zden N2 (fo i) (kF i) (fF i) (sF i)) 256 < 256 then nI (fa_first (zden N2 (fo i) (kF i) (fF i) (sF i)) 256) else -1)]) rfl ?_
    exact ret _ _ _ _ _ _ (by exact ⟨by rw [zdnd_in hi hn, zff_cong eN hfi]; rfl, _, 6, rfl, by omega, hN2⟩) hP hD hS dX3_denied_22
  · refine W.eq (g2 := F0 m 5 ls [.null]) rfl ?_
    refine lv_astore_nN (lv' := [(2, .null), (0, .ref (ad 0)), (1, .int cl)]) hx hb dX3_denied_5 rfl hl (by decide) rfl (fun ls hl => ?_)
    refine lv_aload_nN hx hb dX3_denied_6 rfl (lv_at hl 0 rfl) ?_
    refine lv_ifnonnullN hx hb dX3_denied_7 ?_
    refine lv_iconst (v := (-1 : Int32)) hx hb dX3_denied_10 (by decide) ?_
    refine lv_goto (tgt := 22) hx hb dX3_denied_11 (by decide) ?_
    exact ret _ _ _ _ _ _ (by exact ⟨by rw [zdnd_no hyc], _, sn, rfl, hsn, hOK⟩) hP hD hS dX3_denied_22
theorem w_X3_secondMend__constant_RX3_99_2147483648__ebb59d : (.constant RX3 99 (-2147483648) : Cond) ∈ wsX3_secondMend := by decide +kernel
theorem w_X3_secondMend__fieldLink_RX3_118_WordsBeside_Claim_function_I__d67073 : (.fieldLink RX3 118 "WordsBeside$Claim" "function" "I" : Cond) ∈ wsX3_secondMend := by decide +kernel
theorem w_X3_secondMend__fieldLink_RX3_121_WordsBeside_Claim_kind_I__be85f9 : (.fieldLink RX3 121 "WordsBeside$Claim" "kind" "I" : Cond) ∈ wsX3_secondMend := by decide +kernel
theorem in_X3_secondMend_X0 : ∀ w ∈ wsX00, w ∈ wsX3_secondMend := fun _ h => List.mem_cons_of_mem _ (List.mem_append_left _ (List.mem_append_left _ (List.mem_append_left _ (List.mem_append_right _ h))))
set_option maxHeartbeats 4000000 in
set_option maxRecDepth 100000 in
theorem c_X3_secondMend (l : Launch) (D : va_G) (cI cZ cW cC : ClassId) (ad : Nat → Nat) (st ln N : Nat → Int32) (fs fc : Nat → Option Nat) (hm : Nat → Int32) (se kp cm : Int32) (PL : List Nat) (pf : Nat → va_E) (sn : Nat) (hsn : sn ≤ 6) (es : se = nI sn) (L : Nat → Nat) (HL : zHL ln L) (HV : ∀ f, f < 6 → zvs st f (L f)) (hOK : zOK st L N sn) (Gt : Nat → Int32) (hGt : zOK st L Gt 6) (n : Nat) (hn : n ≤ 40) (en : cm = nI n) (co fo bo : Nat → Nat) (kF fF sF lh mF : Nat → Int32) (HC : zPC PL pf fc co fo bo kF fF sF lh mF n) (hfo : ∀ i, i < n → fo i < 6) (h5 : ∀ i, i < n → kF i = 5 → zr 256 (fF i)) (i : Nat) (hi : i < n) (sz : Nat) : zq_mu l D cI cZ cW cC yX3_secondMend wsX3_secondMend ({ frames := 5, cells := 0, slots := 0, locals := 119 } : Room) [.ref (ad 0), .ref (co i)] ((cX cI cW cC ad st ln N fs fc hm se kp cm) ++ va_pl PL pf) sz (fun v w1 => v = some (.int (zm2 Gt (fo i) (kF i))) ∧ ∃ (N3 : Nat → Int32) (sn3 : Nat), w1 = ((cX cI cW cC ad st ln N3 fs fc hm (nI sn3) kp cm) ++ va_pl PL pf) ∧ sn3 ≤ 6 ∧ zOK st L N3 sn3) 0 0 := by
  refine zq_muI (own := RX3) (by decide) rfl rfl (Nat.le_of_ble_eq_true rfl) ?_
  intro p e s m below meth c Q A ls hsz hF hin hA hP hK hD hS hl ret
  obtain ⟨hx, hb, hml, hown, hts⟩ := hF
  have hl : lv_has ls 2 [(0, .ref (ad 0)), (1, .ref (co i))] := hl
  subst es
  have hfi := hfo i hi
  refine lv_aload_n hx hb dX3_secondMend_0 rfl (lv_at hl 1 rfl) ?_
  obtain ⟨kq, hq⟩ := zpl_at (X := (cX cI cW cC ad st ln N fs fc hm (nI sn) kp cm)) (HC.1 i hi).2.1 (HC.1 i hi).2.2
  refine zq_get hx hb hts in_X3_secondMend_X0 hown hK hP kq hq rfl 1 (by decide) (hts _ w_X3_secondMend__fieldLink_RX3_121_WordsBeside_Claim_kind_I__be85f9) rfl dX3_secondMend_1 ?_
  refine lv_if_ne (tgt := 21) hx hb dX3_secondMend_4 (by decide) (fun c4 => ?_) (fun c4 => ?_)
  · refine lv_ldc (v := (-2147483648 : Int32)) hx hb hown (hts _ w_X3_secondMend__constant_RX3_99_2147483648__ebb59d) dX3_secondMend_21 ?_
    exact ret _ _ _ _ _ _ (by exact ⟨by rw [zm2, if_neg c4], _, sn, rfl, hsn, hOK⟩) hP hD hS dX3_secondMend_23
  · refine lv_aload_n hx hb dX3_secondMend_7 rfl (lv_at hl 0 rfl) ?_
    refine zq_cM (rest := []) ⟨hx, hb, hml, hown, hts⟩ (c_X3_present l D cI cZ cW cC ad st ln N fs fc hm (nI sn) kp cm PL pf L HL HV sn hsn rfl hOK _) (cwV 0 hts gX3_secondMend_X3_present rfl rfl rfl (by decide +kernel) ⟨Nat.le_of_ble_eq_true rfl, Nat.le_of_ble_eq_true rfl⟩) hK hP hD hS hA 3 0 rfl rfl rfl hl.1 rfl (Nat.le_of_ble_eq_true rfl) dX3_secondMend_8 ⟨Nat.le_of_ble_eq_true rfl, Nat.le_of_ble_eq_true rfl⟩ (fun v w1 H locs hv hP hD hS => ?_)
    obtain ⟨rfl, N2, rfl, hN2⟩ := hv
    have hP : va_P D vwCl ((cX cI cW cC ad st ln N2 fs fc hm (nI 6) kp cm) ++ va_pl PL pf) H := hP
    have hD : va_D A ((cX cI cW cC ad st ln N2 fs fc hm (nI 6) kp cm) ++ va_pl PL pf) := hD
    refine W.eq (g2 := F0 m 11 ls [.ref (ad 4)]) rfl ?_
    have eN : ∀ j, j < 1536 → N2 j = Gt j := zOK_one (by omega) hN2 hGt HV
    refine lv_aload_n hx hb dX3_secondMend_11 rfl (lv_at hl 1 rfl) ?_
    obtain ⟨kq, hq⟩ := zpl_at (X := (cX cI cW cC ad st ln N2 fs fc hm (nI 6) kp cm)) (HC.1 i hi).2.1 (HC.1 i hi).2.2
    refine zq_get hx hb hts in_X3_secondMend_X0 hown hK hP kq hq rfl 0 (by decide) (hts _ w_X3_secondMend__fieldLink_RX3_118_WordsBeside_Claim_function_I__d67073) rfl dX3_secondMend_12 ?_
    refine zq_cV (rest := []) ⟨hx, hb, hml, hown, hts⟩ (c_X2_most l D cI cZ cW cC (ad 4) (ad 5) N2 (fo i) hfi) (cwV 1 hts gX3_secondMend_X2_most rfl rfl rfl (by decide +kernel) ⟨Nat.le_of_ble_eq_true rfl, Nat.le_of_ble_eq_true rfl⟩) hK (zP_2 (hP 4 _ rfl) (hP 5 _ rfl)) 2 0 rfl rfl rfl hl.1 rfl (Nat.le_of_ble_eq_true rfl) dX3_secondMend_15 ⟨Nat.le_of_ble_eq_true rfl, Nat.le_of_ble_eq_true rfl⟩ (fun v hv => ?_)
    obtain rfl := hv
    refine W.eq (g2 := F0 m 18 ls [.int (zmst N2 (fo i) 256)]) rfl ?_
    refine lv_goto (tgt := 23) hx hb dX3_secondMend_18 (by decide) ?_
    exact ret _ _ _ _ _ _ (by exact ⟨by rw [← zm2_cong eN hfi, zm2, if_pos c4], _, 6, rfl, by omega, hN2⟩) hP hD hS dX3_secondMend_23
theorem w_X3_firstMend__constant_RX3_99_2147483648__ebb59d : (.constant RX3 99 (-2147483648) : Cond) ∈ wsX3_firstMend := by decide +kernel
theorem w_X3_firstMend__fieldLink_RX3_118_WordsBeside_Claim_function_I__d67073 : (.fieldLink RX3 118 "WordsBeside$Claim" "function" "I" : Cond) ∈ wsX3_firstMend := by decide +kernel
theorem w_X3_firstMend__fieldLink_RX3_121_WordsBeside_Claim_kind_I__be85f9 : (.fieldLink RX3 121 "WordsBeside$Claim" "kind" "I" : Cond) ∈ wsX3_firstMend := by decide +kernel
theorem w_X3_firstMend__fieldLink_RX3_124_WordsBeside_Claim_p_I__13cf07 : (.fieldLink RX3 124 "WordsBeside$Claim" "p" "I" : Cond) ∈ wsX3_firstMend := by decide +kernel
theorem in_X3_firstMend_X0 : ∀ w ∈ wsX00, w ∈ wsX3_firstMend := fun _ h => List.mem_cons_of_mem _ (List.mem_append_left _ (List.mem_append_left _ (List.mem_append_left _ (List.mem_append_right _ h))))
set_option maxHeartbeats 4000000 in
set_option maxRecDepth 100000 in
theorem c_X3_firstMend (l : Launch) (D : va_G) (cI cZ cW cC : ClassId) (ad : Nat → Nat) (st ln N : Nat → Int32) (fs fc : Nat → Option Nat) (hm : Nat → Int32) (se kp cm : Int32) (PL : List Nat) (pf : Nat → va_E) (sn : Nat) (hsn : sn ≤ 6) (es : se = nI sn) (L : Nat → Nat) (HL : zHL ln L) (HV : ∀ f, f < 6 → zvs st f (L f)) (hOK : zOK st L N sn) (Gt : Nat → Int32) (hGt : zOK st L Gt 6) (n : Nat) (hn : n ≤ 40) (en : cm = nI n) (co fo bo : Nat → Nat) (kF fF sF lh mF : Nat → Int32) (HC : zPC PL pf fc co fo bo kF fF sF lh mF n) (hfo : ∀ i, i < n → fo i < 6) (h5 : ∀ i, i < n → kF i = 5 → zr 256 (fF i)) (i : Nat) (hi : i < n) (sz : Nat) : zq_mu l D cI cZ cW cC yX3_firstMend wsX3_firstMend ({ frames := 5, cells := 0, slots := 0, locals := 119 } : Room) [.ref (ad 0), .ref (co i)] ((cX cI cW cC ad st ln N fs fc hm se kp cm) ++ va_pl PL pf) sz (fun v w1 => v = some (.int (zm1 Gt (fo i) (kF i) (fF i))) ∧ ∃ (N3 : Nat → Int32) (sn3 : Nat), w1 = ((cX cI cW cC ad st ln N3 fs fc hm (nI sn3) kp cm) ++ va_pl PL pf) ∧ sn3 ≤ 6 ∧ zOK st L N3 sn3) 0 0 := by
  refine zq_muI (own := RX3) (by decide) rfl rfl (Nat.le_of_ble_eq_true rfl) ?_
  intro p e s m below meth c Q A ls hsz hF hin hA hP hK hD hS hl ret
  obtain ⟨hx, hb, hml, hown, hts⟩ := hF
  have hl : lv_has ls 2 [(0, .ref (ad 0)), (1, .ref (co i))] := hl
  subst es
  have hfi := hfo i hi
  refine lv_aload_n hx hb dX3_firstMend_0 rfl (lv_at hl 1 rfl) ?_
  obtain ⟨kq, hq⟩ := zpl_at (X := (cX cI cW cC ad st ln N fs fc hm (nI sn) kp cm)) (HC.1 i hi).2.1 (HC.1 i hi).2.2
  refine zq_get hx hb hts in_X3_firstMend_X0 hown hK hP kq hq rfl 1 (by decide) (hts _ w_X3_firstMend__fieldLink_RX3_121_WordsBeside_Claim_kind_I__be85f9) rfl dX3_firstMend_1 ?_
  by_cases k4_0 : (kF i) = (0 : Int32)
  · refine lv_tableIn (tgt := 48) hx hb dX3_firstMend_4 (by rw [k4_0]; decide) (by rw [k4_0]; decide) (by rw [k4_0]; rfl) (by decide) ?_
    refine lv_aload_n hx hb dX3_firstMend_48 rfl (lv_at hl 0 rfl) ?_
    refine zq_cM (rest := []) ⟨hx, hb, hml, hown, hts⟩ (c_X3_present l D cI cZ cW cC ad st ln N fs fc hm (nI sn) kp cm PL pf L HL HV sn hsn rfl hOK _) (cwV 0 hts gX3_firstMend_X3_present rfl rfl rfl (by decide +kernel) ⟨Nat.le_of_ble_eq_true rfl, Nat.le_of_ble_eq_true rfl⟩) hK hP hD hS hA 3 0 rfl rfl rfl hl.1 rfl (Nat.le_of_ble_eq_true rfl) dX3_firstMend_49 ⟨Nat.le_of_ble_eq_true rfl, Nat.le_of_ble_eq_true rfl⟩ (fun v w1 H locs hv hP hD hS => ?_)
    obtain ⟨rfl, N2, rfl, hN2⟩ := hv
    have hP : va_P D vwCl ((cX cI cW cC ad st ln N2 fs fc hm (nI 6) kp cm) ++ va_pl PL pf) H := hP
    have hD : va_D A ((cX cI cW cC ad st ln N2 fs fc hm (nI 6) kp cm) ++ va_pl PL pf) := hD
    refine W.eq (g2 := F0 m 52 ls [.ref (ad 4)]) rfl ?_
    have eN : ∀ j, j < 1536 → N2 j = Gt j := zOK_one (by omega) hN2 hGt HV
    refine lv_aload_n hx hb dX3_firstMend_52 rfl (lv_at hl 1 rfl) ?_
    obtain ⟨kq, hq⟩ := zpl_at (X := (cX cI cW cC ad st ln N2 fs fc hm (nI 6) kp cm)) (HC.1 i hi).2.1 (HC.1 i hi).2.2
    refine zq_get hx hb hts in_X3_firstMend_X0 hown hK hP kq hq rfl 0 (by decide) (hts _ w_X3_firstMend__fieldLink_RX3_118_WordsBeside_Claim_function_I__d67073) rfl dX3_firstMend_53 ?_
    refine zq_cV (rest := []) ⟨hx, hb, hml, hown, hts⟩ (c_X2_least l D cI cZ cW cC (ad 4) (ad 5) N2 (fo i) hfi) (cwV 1 hts gX3_firstMend_X2_least rfl rfl rfl (by decide +kernel) ⟨Nat.le_of_ble_eq_true rfl, Nat.le_of_ble_eq_true rfl⟩) hK (zP_2 (hP 4 _ rfl) (hP 5 _ rfl)) 2 0 rfl rfl rfl hl.1 rfl (Nat.le_of_ble_eq_true rfl) dX3_firstMend_56 ⟨Nat.le_of_ble_eq_true rfl, Nat.le_of_ble_eq_true rfl⟩ (fun v hv => ?_)
    obtain rfl := hv
    refine W.eq (g2 := F0 m 59 ls [.int (zlst N2 (fo i) 256)]) rfl ?_
    exact ret _ _ _ _ _ _ (by exact ⟨by rw [← zm1_cong eN hfi (h5 i hi)]; simp [zm1, k4_0], _, 6, rfl, by omega, hN2⟩) hP hD hS dX3_firstMend_59
  · by_cases k4_1 : (kF i) = (1 : Int32)
    · refine lv_tableIn (tgt := 100) hx hb dX3_firstMend_4 (by rw [k4_1]; decide) (by rw [k4_1]; decide) (by rw [k4_1]; rfl) (by decide) ?_
      refine lv_ldc (v := (-2147483648 : Int32)) hx hb hown (hts _ w_X3_firstMend__constant_RX3_99_2147483648__ebb59d) dX3_firstMend_100 ?_
      exact ret _ _ _ _ _ _ (by exact ⟨by simp [zm1, k4_1], _, sn, rfl, hsn, hOK⟩) hP hD hS dX3_firstMend_102
    · by_cases k4_2 : (kF i) = (2 : Int32)
      · refine lv_tableIn (tgt := 100) hx hb dX3_firstMend_4 (by rw [k4_2]; decide) (by rw [k4_2]; decide) (by rw [k4_2]; rfl) (by decide) ?_
        refine lv_ldc (v := (-2147483648 : Int32)) hx hb hown (hts _ w_X3_firstMend__constant_RX3_99_2147483648__ebb59d) dX3_firstMend_100 ?_
        exact ret _ _ _ _ _ _ (by exact ⟨by simp [zm1, k4_2], _, sn, rfl, hsn, hOK⟩) hP hD hS dX3_firstMend_102
      · by_cases k4_3 : (kF i) = (3 : Int32)
        · refine lv_tableIn (tgt := 60) hx hb dX3_firstMend_4 (by rw [k4_3]; decide) (by rw [k4_3]; decide) (by rw [k4_3]; rfl) (by decide) ?_
          refine lv_aload_n hx hb dX3_firstMend_60 rfl (lv_at hl 0 rfl) ?_
          refine zq_cM (rest := []) ⟨hx, hb, hml, hown, hts⟩ (c_X3_present l D cI cZ cW cC ad st ln N fs fc hm (nI sn) kp cm PL pf L HL HV sn hsn rfl hOK _) (cwV 0 hts gX3_firstMend_X3_present rfl rfl rfl (by decide +kernel) ⟨Nat.le_of_ble_eq_true rfl, Nat.le_of_ble_eq_true rfl⟩) hK hP hD hS hA 3 0 rfl rfl rfl hl.1 rfl (Nat.le_of_ble_eq_true rfl) dX3_firstMend_61 ⟨Nat.le_of_ble_eq_true rfl, Nat.le_of_ble_eq_true rfl⟩ (fun v w1 H locs hv hP hD hS => ?_)
          obtain ⟨rfl, N2, rfl, hN2⟩ := hv
          have hP : va_P D vwCl ((cX cI cW cC ad st ln N2 fs fc hm (nI 6) kp cm) ++ va_pl PL pf) H := hP
          have hD : va_D A ((cX cI cW cC ad st ln N2 fs fc hm (nI 6) kp cm) ++ va_pl PL pf) := hD
          refine W.eq (g2 := F0 m 64 ls [.ref (ad 4)]) rfl ?_
          have eN : ∀ j, j < 1536 → N2 j = Gt j := zOK_one (by omega) hN2 hGt HV
          refine lv_aload_n hx hb dX3_firstMend_64 rfl (lv_at hl 1 rfl) ?_
          obtain ⟨kq, hq⟩ := zpl_at (X := (cX cI cW cC ad st ln N2 fs fc hm (nI 6) kp cm)) (HC.1 i hi).2.1 (HC.1 i hi).2.2
          refine zq_get hx hb hts in_X3_firstMend_X0 hown hK hP kq hq rfl 0 (by decide) (hts _ w_X3_firstMend__fieldLink_RX3_118_WordsBeside_Claim_function_I__d67073) rfl dX3_firstMend_65 ?_
          refine zq_cV (rest := []) ⟨hx, hb, hml, hown, hts⟩ (c_X2_greatestDivisor l D cI cZ cW cC (ad 4) (ad 5) N2 (fo i) hfi (zOK_B hN2)) (cwV 1 hts gX3_firstMend_X2_greatestDivisor rfl rfl rfl (by decide +kernel) ⟨Nat.le_of_ble_eq_true rfl, Nat.le_of_ble_eq_true rfl⟩) hK (zP_2 (hP 4 _ rfl) (hP 5 _ rfl)) 2 0 rfl rfl rfl hl.1 rfl (Nat.le_of_ble_eq_true rfl) dX3_firstMend_68 ⟨Nat.le_of_ble_eq_true rfl, Nat.le_of_ble_eq_true rfl⟩ (fun v hv => ?_)
          obtain rfl := hv
          refine W.eq (g2 := F0 m 71 ls [.int (nI (zgd (zgc N2 (fo i) 256) 1000))]) rfl ?_
          exact ret _ _ _ _ _ _ (by exact ⟨by rw [← zm1_cong eN hfi (h5 i hi)]; simp [zm1, k4_3], _, 6, rfl, by omega, hN2⟩) hP hD hS dX3_firstMend_71
        · by_cases k4_4 : (kF i) = (4 : Int32)
          · refine lv_tableIn (tgt := 100) hx hb dX3_firstMend_4 (by rw [k4_4]; decide) (by rw [k4_4]; decide) (by rw [k4_4]; rfl) (by decide) ?_
            refine lv_ldc (v := (-2147483648 : Int32)) hx hb hown (hts _ w_X3_firstMend__constant_RX3_99_2147483648__ebb59d) dX3_firstMend_100 ?_
            exact ret _ _ _ _ _ _ (by exact ⟨by simp [zm1, k4_4], _, sn, rfl, hsn, hOK⟩) hP hD hS dX3_firstMend_102
          · by_cases k4_5 : (kF i) = (5 : Int32)
            · refine lv_tableIn (tgt := 72) hx hb dX3_firstMend_4 (by rw [k4_5]; decide) (by rw [k4_5]; decide) (by rw [k4_5]; rfl) (by decide) ?_
              refine lv_aload_n hx hb dX3_firstMend_72 rfl (lv_at hl 0 rfl) ?_
              refine zq_cM (rest := []) ⟨hx, hb, hml, hown, hts⟩ (c_X3_present l D cI cZ cW cC ad st ln N fs fc hm (nI sn) kp cm PL pf L HL HV sn hsn rfl hOK _) (cwV 0 hts gX3_firstMend_X3_present rfl rfl rfl (by decide +kernel) ⟨Nat.le_of_ble_eq_true rfl, Nat.le_of_ble_eq_true rfl⟩) hK hP hD hS hA 3 0 rfl rfl rfl hl.1 rfl (Nat.le_of_ble_eq_true rfl) dX3_firstMend_73 ⟨Nat.le_of_ble_eq_true rfl, Nat.le_of_ble_eq_true rfl⟩ (fun v w1 H locs hv hP hD hS => ?_)
              obtain ⟨rfl, N2, rfl, hN2⟩ := hv
              have hP : va_P D vwCl ((cX cI cW cC ad st ln N2 fs fc hm (nI 6) kp cm) ++ va_pl PL pf) H := hP
              have hD : va_D A ((cX cI cW cC ad st ln N2 fs fc hm (nI 6) kp cm) ++ va_pl PL pf) := hD
              refine W.eq (g2 := F0 m 76 ls [.ref (ad 4)]) rfl ?_
              have eN : ∀ j, j < 1536 → N2 j = Gt j := zOK_one (by omega) hN2 hGt HV
              refine lv_aload_n hx hb dX3_firstMend_76 rfl (lv_at hl 1 rfl) ?_
              obtain ⟨kq, hq⟩ := zpl_at (X := (cX cI cW cC ad st ln N2 fs fc hm (nI 6) kp cm)) (HC.1 i hi).2.1 (HC.1 i hi).2.2
              refine zq_get hx hb hts in_X3_firstMend_X0 hown hK hP kq hq rfl 0 (by decide) (hts _ w_X3_firstMend__fieldLink_RX3_118_WordsBeside_Claim_function_I__d67073) rfl dX3_firstMend_77 ?_
              refine lv_aload_n hx hb dX3_firstMend_80 rfl (lv_at hl 1 rfl) ?_
              obtain ⟨kq, hq⟩ := zpl_at (X := (cX cI cW cC ad st ln N2 fs fc hm (nI 6) kp cm)) (HC.1 i hi).2.1 (HC.1 i hi).2.2
              refine zq_get hx hb hts in_X3_firstMend_X0 hown hK hP kq hq rfl 2 (by decide) (hts _ w_X3_firstMend__fieldLink_RX3_124_WordsBeside_Claim_p_I__13cf07) rfl dX3_firstMend_81 ?_
              refine zq_cV (rest := []) ⟨hx, hb, hml, hown, hts⟩ (zq_ro_mono (c_X2_given l D cI cZ cW cC (ad 4) (ad 5) N2 (nI (fo i)) (fF i)) (fun v h => show v = some (.int (N2 (256 * fo i + (fF i).toNatClampNeg))) from by obtain ⟨j5, hj5, e5⟩ := h5 i hi k4_5; rw [h, e5, zg_in hfi hj5, nI_clamp (by omega)])) (cwV 2 hts gX3_firstMend_X2_given rfl rfl rfl (by decide +kernel) ⟨Nat.le_of_ble_eq_true rfl, Nat.le_of_ble_eq_true rfl⟩) hK (zP_2 (hP 4 _ rfl) (hP 5 _ rfl)) 2 0 rfl rfl rfl hl.1 rfl (Nat.le_of_ble_eq_true rfl) dX3_firstMend_84 ⟨Nat.le_of_ble_eq_true rfl, Nat.le_of_ble_eq_true rfl⟩ (fun v hv => ?_)
              obtain rfl := hv
              refine W.eq (g2 := F0 m 87 ls [.int (N2 (256 * fo i + (fF i).toNatClampNeg))]) rfl ?_
              exact ret _ _ _ _ _ _ (by exact ⟨by rw [← zm1_cong eN hfi (h5 i hi)]; simp [zm1, k4_5], _, 6, rfl, by omega, hN2⟩) hP hD hS dX3_firstMend_87
            · by_cases k4_6 : (kF i) = (6 : Int32)
              · refine lv_tableIn (tgt := 88) hx hb dX3_firstMend_4 (by rw [k4_6]; decide) (by rw [k4_6]; decide) (by rw [k4_6]; rfl) (by decide) ?_
                refine lv_aload_n hx hb dX3_firstMend_88 rfl (lv_at hl 0 rfl) ?_
                refine zq_cM (rest := []) ⟨hx, hb, hml, hown, hts⟩ (c_X3_present l D cI cZ cW cC ad st ln N fs fc hm (nI sn) kp cm PL pf L HL HV sn hsn rfl hOK _) (cwV 0 hts gX3_firstMend_X3_present rfl rfl rfl (by decide +kernel) ⟨Nat.le_of_ble_eq_true rfl, Nat.le_of_ble_eq_true rfl⟩) hK hP hD hS hA 3 0 rfl rfl rfl hl.1 rfl (Nat.le_of_ble_eq_true rfl) dX3_firstMend_89 ⟨Nat.le_of_ble_eq_true rfl, Nat.le_of_ble_eq_true rfl⟩ (fun v w1 H locs hv hP hD hS => ?_)
                obtain ⟨rfl, N2, rfl, hN2⟩ := hv
                have hP : va_P D vwCl ((cX cI cW cC ad st ln N2 fs fc hm (nI 6) kp cm) ++ va_pl PL pf) H := hP
                have hD : va_D A ((cX cI cW cC ad st ln N2 fs fc hm (nI 6) kp cm) ++ va_pl PL pf) := hD
                refine W.eq (g2 := F0 m 92 ls [.ref (ad 4)]) rfl ?_
                have eN : ∀ j, j < 1536 → N2 j = Gt j := zOK_one (by omega) hN2 hGt HV
                refine lv_aload_n hx hb dX3_firstMend_92 rfl (lv_at hl 1 rfl) ?_
                obtain ⟨kq, hq⟩ := zpl_at (X := (cX cI cW cC ad st ln N2 fs fc hm (nI 6) kp cm)) (HC.1 i hi).2.1 (HC.1 i hi).2.2
                refine zq_get hx hb hts in_X3_firstMend_X0 hown hK hP kq hq rfl 0 (by decide) (hts _ w_X3_firstMend__fieldLink_RX3_118_WordsBeside_Claim_function_I__d67073) rfl dX3_firstMend_93 ?_
                refine zq_cV (rest := []) ⟨hx, hb, hml, hown, hts⟩ (c_X2_refusesFrom l D cI cZ cW cC (ad 4) (ad 5) N2 (fo i) hfi) (cwV 1 hts gX3_firstMend_X2_refusesFrom rfl rfl rfl (by decide +kernel) ⟨Nat.le_of_ble_eq_true rfl, Nat.le_of_ble_eq_true rfl⟩) hK (zP_2 (hP 4 _ rfl) (hP 5 _ rfl)) 2 0 rfl rfl rfl hl.1 rfl (Nat.le_of_ble_eq_true rfl) dX3_firstMend_96 ⟨Nat.le_of_ble_eq_true rfl, Nat.le_of_ble_eq_true rfl⟩ (fun v hv => ?_)
                obtain rfl := hv
                refine W.eq (g2 := F0 m 99 ls [.int (zRF N2 (fo i))]) rfl ?_
                exact ret _ _ _ _ _ _ (by exact ⟨by rw [← zm1_cong eN hfi (h5 i hi)]; simp [zm1, k4_6], _, 6, rfl, by omega, hN2⟩) hP hD hS dX3_firstMend_99
              · refine lv_tableOut (tgt := 100) hx hb dX3_firstMend_4 (by have k4_0T := lv_neT k4_0 (a := 0) rfl; have k4_1T := lv_neT k4_1 (a := 1) rfl; have k4_2T := lv_neT k4_2 (a := 2) rfl; have k4_3T := lv_neT k4_3 (a := 3) rfl; have k4_4T := lv_neT k4_4 (a := 4) rfl; have k4_5T := lv_neT k4_5 (a := 5) rfl; have k4_6T := lv_neT k4_6 (a := 6) rfl; omega) (by decide) ?_
                refine lv_ldc (v := (-2147483648 : Int32)) hx hb hown (hts _ w_X3_firstMend__constant_RX3_99_2147483648__ebb59d) dX3_firstMend_100 ?_
                exact ret _ _ _ _ _ _ (by exact ⟨by simp [zm1, k4_0, k4_1, k4_2, k4_3, k4_4, k4_5, k4_6], _, sn, rfl, hsn, hOK⟩) hP hD hS dX3_firstMend_102
theorem w_X3_mend__constant_RX3_99_2147483648__ebb59d : (.constant RX3 99 (-2147483648) : Cond) ∈ wsX3_mend := by decide +kernel
set_option maxHeartbeats 4000000 in
set_option maxRecDepth 100000 in
theorem c_X3_mend (l : Launch) (D : va_G) (cI cZ cW cC : ClassId) (ad : Nat → Nat) (st ln N : Nat → Int32) (fs fc : Nat → Option Nat) (hm : Nat → Int32) (se kp cm : Int32) (PL : List Nat) (pf : Nat → va_E) (sn : Nat) (hsn : sn ≤ 6) (es : se = nI sn) (L : Nat → Nat) (HL : zHL ln L) (HV : ∀ f, f < 6 → zvs st f (L f)) (hOK : zOK st L N sn) (Gt : Nat → Int32) (hGt : zOK st L Gt 6) (n : Nat) (hn : n ≤ 40) (en : cm = nI n) (co fo bo : Nat → Nat) (kF fF sF lh mF : Nat → Int32) (HC : zPC PL pf fc co fo bo kF fF sF lh mF n) (hfo : ∀ i, i < n → fo i < 6) (h5 : ∀ i, i < n → kF i = 5 → zr 256 (fF i)) (cl wh : Int32) (sz : Nat) : zq_mu l D cI cZ cW cC yX3_mend wsX3_mend ({ frames := 6, cells := 0, slots := 0, locals := 140 } : Room) [.ref (ad 0), .int cl, .int wh] ((cX cI cW cC ad st ln N fs fc hm se kp cm) ++ va_pl PL pf) sz (fun v w1 => v = some (.int (zmend Gt fo kF fF sF n cl wh)) ∧ ∃ (N3 : Nat → Int32) (sn3 : Nat), w1 = ((cX cI cW cC ad st ln N3 fs fc hm (nI sn3) kp cm) ++ va_pl PL pf) ∧ sn3 ≤ 6 ∧ zOK st L N3 sn3) 0 0 := by
  refine zq_muI (own := RX3) (by decide) rfl rfl (Nat.le_of_ble_eq_true rfl) ?_
  intro p e s m below meth c Q A ls hsz hF hin hA hP hK hD hS hl ret
  obtain ⟨hx, hb, hml, hown, hts⟩ := hF
  have hl : lv_has ls 4 [(0, .ref (ad 0)), (1, .int cl), (2, .int wh)] := hl
  subst es
  refine lv_aload_n hx hb dX3_mend_0 rfl (lv_at hl 0 rfl) ?_
  refine lv_iload_n hx hb dX3_mend_1 rfl (lv_at hl 1 rfl) ?_
  refine zq_cV (rest := []) ⟨hx, hb, hml, hown, hts⟩ (c_X3_claimAt l D cI cZ cW cC ad st ln N fs fc hm (nI sn) kp cm PL pf n hn en co fo bo kF fF sF lh mF HC cl) (cwV 1 hts gX3_mend_X3_claimAt rfl rfl rfl (by decide +kernel) ⟨Nat.le_of_ble_eq_true rfl, Nat.le_of_ble_eq_true rfl⟩) hK hP 3 0 rfl rfl rfl hl.1 rfl (Nat.le_of_ble_eq_true rfl) dX3_mend_2 ⟨Nat.le_of_ble_eq_true rfl, Nat.le_of_ble_eq_true rfl⟩ (fun v hv => ?_)
  rcases hv with ⟨i, hi, rfl, rfl⟩ | ⟨hyc, rfl⟩
  · refine W.eq (g2 := F0 m 5 ls [.ref (co i)]) rfl ?_
    have hfi := hfo i hi
    refine lv_astore_n (lv' := [(3, .ref (co i)), (0, .ref (ad 0)), (1, .int (nI i)), (2, .int wh)]) hx hb dX3_mend_5 rfl hl (by decide) rfl (fun ls hl => ?_)
    refine lv_aload_n hx hb dX3_mend_6 rfl (lv_at hl 0 rfl) ?_
    refine lv_ifnull hx hb dX3_mend_7 ?_
    refine lv_aload_n hx hb dX3_mend_10 rfl (lv_at hl 0 rfl) ?_
    refine lv_aload_n hx hb dX3_mend_11 rfl (lv_at hl 1 rfl) ?_
    refine zq_cM (rest := [.ref (co i)]) ⟨hx, hb, hml, hown, hts⟩ (c_X3_present l D cI cZ cW cC ad st ln N fs fc hm (nI sn) kp cm PL pf L HL HV sn hsn rfl hOK _) (cwV 0 hts gX3_mend_X3_present rfl rfl rfl (by decide +kernel) ⟨Nat.le_of_ble_eq_true rfl, Nat.le_of_ble_eq_true rfl⟩) hK hP hD hS hA 3 0 rfl rfl rfl hl.1 rfl (Nat.le_of_ble_eq_true rfl) dX3_mend_12 ⟨Nat.le_of_ble_eq_true rfl, Nat.le_of_ble_eq_true rfl⟩ (fun v w1 H locs hv hP hD hS => ?_)
    obtain ⟨rfl, N2, rfl, hN2⟩ := hv
    have hP : va_P D vwCl ((cX cI cW cC ad st ln N2 fs fc hm (nI 6) kp cm) ++ va_pl PL pf) H := hP
    have hD : va_D A ((cX cI cW cC ad st ln N2 fs fc hm (nI 6) kp cm) ++ va_pl PL pf) := hD
    refine W.eq (g2 := F0 m 15 ls [.ref (ad 4), .ref (co i)]) rfl ?_
    have eN : ∀ j, j < 1536 → N2 j = Gt j := zOK_one (by omega) hN2 hGt HV
    refine zq_cV (rest := []) ⟨hx, hb, hml, hown, hts⟩ (c_X0_isHeldIn l D cI cZ cW cC (co i) (ad 4) (ad 5) N2 (fo i) hfi (kF i) (fF i) (sF i) (nI (bo i)) (lh i) (mF i)) (cwV 1 hts gX3_mend_X0_isHeldIn rfl rfl rfl (by decide +kernel) ⟨Nat.le_of_ble_eq_true rfl, Nat.le_of_ble_eq_true rfl⟩) hK (zP_3 (zP_pl hP (HC.1 i hi).2.1 (HC.1 i hi).2.2) (hP 4 _ rfl) (hP 5 _ rfl)) 0 0 rfl rfl rfl hl.1 rfl (Nat.le_of_ble_eq_true rfl) dX3_mend_15 ⟨Nat.le_of_ble_eq_true rfl, Nat.le_of_ble_eq_true rfl⟩ (fun v hv => ?_)
    obtain rfl := hv
    refine W.eq (g2 := F0 m 18 ls [.int (if zheld (zden N2 (fo i) (kF i) (fF i) (sF i)) then (1 : Int32) else 0)]) rfl ?_
    refine lv_if_eq (tgt := 24) hx hb dX3_mend_18 (by decide) (fun c18 => ?_) (fun c18 => ?_)
    · refine lv_iload_n hx hb dX3_mend_24 rfl (lv_at hl 3 rfl) ?_
      by_cases k25_0 : wh = (0 : Int32)
      · refine lv_lookup (tgt := 52) (off := 27) hx hb dX3_mend_25 (by decide) (by subst k25_0; rfl) (by decide) ?_
        refine lv_aload_n hx hb dX3_mend_52 rfl (lv_at hl 1 rfl) ?_
        refine lv_aload_n hx hb dX3_mend_53 rfl (lv_at hl 0 rfl) ?_
        refine zq_cM (rest := []) ⟨hx, hb, hml, hown, hts⟩ (c_X3_firstMend l D cI cZ cW cC ad st ln N2 fs fc hm (nI 6) kp cm PL pf 6 (by omega) rfl L HL HV hN2 Gt hGt n hn en co fo bo kF fF sF lh mF HC hfo h5 i hi _) (cwV 1 hts gX3_mend_X3_firstMend rfl rfl rfl (by decide +kernel) ⟨Nat.le_of_ble_eq_true rfl, Nat.le_of_ble_eq_true rfl⟩) hK hP hD hS hA 3 0 rfl rfl rfl hl.1 rfl (Nat.le_of_ble_eq_true rfl) dX3_mend_54 ⟨Nat.le_of_ble_eq_true rfl, Nat.le_of_ble_eq_true rfl⟩ (fun v w1 H locs hv hP hD hS => ?_)
        obtain ⟨rfl, N3, sn3, rfl, hs3, hO3⟩ := hv
        have hP : va_P D vwCl ((cX cI cW cC ad st ln N3 fs fc hm (nI sn3) kp cm) ++ va_pl PL pf) H := hP
        have hD : va_D A ((cX cI cW cC ad st ln N3 fs fc hm (nI sn3) kp cm) ++ va_pl PL pf) := hD
        refine W.eq (g2 := F0 m 57 ls [.int (zm1 Gt (fo i) (kF i) (fF i))]) rfl ?_
        exact ret _ _ _ _ _ _ (by exact ⟨by rw [zmend_in hn hi (by rw [zdn, ← zheld_cong eN hfi]; exact zct_bb c18)]; simp [k25_0], _, sn3, rfl, hs3, hO3⟩) hP hD hS dX3_mend_57
      · by_cases k25_1 : wh = (1 : Int32)
        · refine lv_lookup (tgt := 58) (off := 33) hx hb dX3_mend_25 (by decide) (by subst k25_1; rfl) (by decide) ?_
          refine lv_aload_n hx hb dX3_mend_58 rfl (lv_at hl 1 rfl) ?_
          refine lv_aload_n hx hb dX3_mend_59 rfl (lv_at hl 0 rfl) ?_
          refine zq_cM (rest := []) ⟨hx, hb, hml, hown, hts⟩ (c_X3_secondMend l D cI cZ cW cC ad st ln N2 fs fc hm (nI 6) kp cm PL pf 6 (by omega) rfl L HL HV hN2 Gt hGt n hn en co fo bo kF fF sF lh mF HC hfo h5 i hi _) (cwV 1 hts gX3_mend_X3_secondMend rfl rfl rfl (by decide +kernel) ⟨Nat.le_of_ble_eq_true rfl, Nat.le_of_ble_eq_true rfl⟩) hK hP hD hS hA 3 0 rfl rfl rfl hl.1 rfl (Nat.le_of_ble_eq_true rfl) dX3_mend_60 ⟨Nat.le_of_ble_eq_true rfl, Nat.le_of_ble_eq_true rfl⟩ (fun v w1 H locs hv hP hD hS => ?_)
          obtain ⟨rfl, N3, sn3, rfl, hs3, hO3⟩ := hv
          have hP : va_P D vwCl ((cX cI cW cC ad st ln N3 fs fc hm (nI sn3) kp cm) ++ va_pl PL pf) H := hP
          have hD : va_D A ((cX cI cW cC ad st ln N3 fs fc hm (nI sn3) kp cm) ++ va_pl PL pf) := hD
          refine W.eq (g2 := F0 m 63 ls [.int (zm2 Gt (fo i) (kF i))]) rfl ?_
          exact ret _ _ _ _ _ _ (by exact ⟨by rw [zmend_in hn hi (by rw [zdn, ← zheld_cong eN hfi]; exact zct_bb c18)]; simp [k25_1], _, sn3, rfl, hs3, hO3⟩) hP hD hS dX3_mend_63
        · refine lv_lookup (tgt := 64) (off := 39) hx hb dX3_mend_25 (by decide) (by show Op.lookupswitch.offset [(0, 27), (1, 33)] 39 wh.toInt = 39; rw [lv_osw (a := 0) k25_0 rfl, lv_osw (a := 1) k25_1 rfl]; rfl) (by decide) ?_
          refine lv_ldc (v := (-2147483648 : Int32)) hx hb hown (hts _ w_X3_mend__constant_RX3_99_2147483648__ebb59d) dX3_mend_64 ?_
          exact ret _ _ _ _ _ _ (by exact ⟨by rw [zmend_in hn hi (by rw [zdn, ← zheld_cong eN hfi]; exact zct_bb c18)]; simp [k25_0, k25_1], _, 6, rfl, by omega, hN2⟩) hP hD hS dX3_mend_66
    · refine lv_ldc (v := (-2147483648 : Int32)) hx hb hown (hts _ w_X3_mend__constant_RX3_99_2147483648__ebb59d) dX3_mend_21 ?_
      exact ret _ _ _ _ _ _ (by exact ⟨by rw [zmend_no (fun ⟨j, hj, e, h9⟩ => by have e2 := zeq e; subst e2; rw [zdn, ← zheld_cong eN hfi, zct_aa c18] at h9; cases h9) hn], _, 6, rfl, by omega, hN2⟩) hP hD hS dX3_mend_23
  · refine W.eq (g2 := F0 m 5 ls [.null]) rfl ?_
    refine lv_astore_nN (lv' := [(3, .null), (0, .ref (ad 0)), (1, .int cl), (2, .int wh)]) hx hb dX3_mend_5 rfl hl (by decide) rfl (fun ls hl => ?_)
    refine lv_aload_nN hx hb dX3_mend_6 rfl (lv_at hl 0 rfl) ?_
    refine lv_ifnullN (tgt := 21) hx hb dX3_mend_7 (by decide) ?_
    refine lv_ldc (v := (-2147483648 : Int32)) hx hb hown (hts _ w_X3_mend__constant_RX3_99_2147483648__ebb59d) dX3_mend_21 ?_
    exact ret _ _ _ _ _ _ (by exact ⟨by rw [zmend_no (fun ⟨i, hi, e, _⟩ => hyc ⟨i, hi, e⟩) hn], _, sn, rfl, hsn, hOK⟩) hP hD hS dX3_mend_23
