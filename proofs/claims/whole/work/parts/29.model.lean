/-! the reference: mend, mended, listed -/
theorem zle0 {x : Int32} (h : (0 : Int32) ≤ x ∧ x ≤ 0) : x = 0 := Int32.le_antisymm h.2 h.1
theorem zle1 {x : Int32} (h : (0 : Int32) ≤ x ∧ x ≤ 1) (h0 : ¬ x = 0) : x = 1 := by
  obtain ⟨j, hj, rfl⟩ := (zr_le (n := 1)).mp h
  have : j = 1 := by
    rcases Nat.lt_or_ge j 1 with q | q
    · exact absurd (show nI j = 0 by rw [show j = 0 by omega]; rfl) h0
    · omega
  rw [this]
  rfl
def zfF (fF kF : Nat → Int32) (i : Nat) (x : Int32) : Nat → Int32 := if kF i = 5 then fF else upd fF i x
def zsF (sF kF : Nat → Int32) (i : Nat) (x y : Int32) : Nat → Int32 := if kF i = 5 then upd sF i x else if kF i = 0 then upd sF i y else sF
/-- the list: by harm, the most first, of like ones by numbers -/
def zah (har : Nat → Nat) (c : Nat) : Nat → Bool := fun d => decide (har c < har d ∨ (har d = har c ∧ d < c))
def zLi (har : Nat → Nat) (n i c : Nat) : Prop := c < n ∧ 0 < har c ∧ fb_ct (zah har c) n = i

theorem w_X4_mend__constant_RX4_64_2147483648__c0c951 : (.constant RX4 64 (-2147483648) : Cond) ∈ wsX4_mend := by decide +kernel
theorem w_X4_mend__fieldLink_RX4_109_WordsBesideModel_mendOne_I__796736 : (.fieldLink RX4 109 "WordsBesideModel" "mendOne" "I" : Cond) ∈ wsX4_mend := by decide +kernel
theorem w_X4_mend__fieldLink_RX4_117_WordsBesideModel_mendTwo_I__0b764c : (.fieldLink RX4 117 "WordsBesideModel" "mendTwo" "I" : Cond) ∈ wsX4_mend := by decide +kernel
theorem w_X4_mend__fieldLink_RX4_23_WordsBesideModel_kind_I__cf4f2c : (.fieldLink RX4 23 "WordsBesideModel" "kind" "[I" : Cond) ∈ wsX4_mend := by decide +kernel
theorem in_X4_mend_X4 : ∀ w ∈ wsX40, w ∈ wsX4_mend := fun _ h => List.mem_cons_of_mem _ (List.mem_append_right _ h)
set_option maxHeartbeats 4000000 in
set_option maxRecDepth 100000 in
theorem c_X4_mend (l : Launch) (D : va_G) (cI cZ cW cC : ClassId) (ad : Nat → Nat) (ln st gv oF kF fF sF bF mF hF : Nat → Int32) (kp cm m1 m2 : Int32) (fo bo : Nat → Nat) (n k : Nat) (hn : n ≤ 40) (hk : k ≤ 30) (HC : zHC fo bo oF kF fF bF n k) (hB : zB (zG gv 31) 1536) (en : cm = nI n) (cl wh : Int32) (sz : Nat) : zq_mu l D cI cZ cW cC yX4_mend wsX4_mend ({ frames := 7, cells := 0, slots := 0, locals := 162 } : Room) [.ref (ad 0), .int cl, .int wh] (mW cI cZ ad ln st gv oF kF fF sF bF mF hF kp cm m1 m2) sz (fun v w1 => v = some (.int (zmend (zG gv 31) fo kF fF sF n cl wh)) ∧ ∃ a1 a2 : Int32, w1 = (mW cI cZ ad ln st gv oF kF fF sF bF mF hF kp cm a1 a2)) 0 0 := by
  refine zq_muI (own := RX4) (by decide) rfl rfl (Nat.le_of_ble_eq_true rfl) ?_
  intro p e s m below meth c Q A ls hsz hF hin hA hP hK hD hS hl ret
  obtain ⟨hx, hb, hml, hown, hts⟩ := hF
  have hl : lv_has ls 3 [(0, .ref (ad 0)), (1, .int cl), (2, .int wh)] := hl
  refine lv_aload_n hx hb dX4_mend_0 rfl (lv_at hl 0 rfl) ?_
  refine lv_iload_n hx hb dX4_mend_1 rfl (lv_at hl 1 rfl) ?_
  refine zq_cM (rest := []) ⟨hx, hb, hml, hown, hts⟩ (c_X4_mends l D cI cZ cW cC ad ln st gv oF kF fF sF bF mF hF kp cm m1 m2 fo bo n k hn hk HC hB en cl _) (cwV 1 hts gX4_mend_X4_mends rfl rfl rfl (by decide +kernel) ⟨Nat.le_of_ble_eq_true rfl, Nat.le_of_ble_eq_true rfl⟩) hK hP hD hS hA 4 0 rfl rfl rfl hl.1 rfl (Nat.le_of_ble_eq_true rfl) dX4_mend_2 ⟨Nat.le_of_ble_eq_true rfl, Nat.le_of_ble_eq_true rfl⟩ (fun v w1 H locs hv hP hD hS => ?_)
  rcases hv with ⟨i, ⟨hi, rfl, hh, hne⟩, rfl, a1, a2, rfl, ea1, ea2⟩ | ⟨hno, rfl, a1, a2, rfl⟩
  · have hP : va_P D vwCl (mW cI cZ ad ln st gv oF kF fF sF bF mF hF kp cm a1 a2) H := hP
    have hD : va_D A (mW cI cZ ad ln st gv oF kF fF sF bF mF hF kp cm a1 a2) := hD
    refine W.eq (g2 := F0 m 5 ls [.int (1 : Int32)]) rfl ?_
    refine lv_if_eq (tgt := 30) hx hb dX4_mend_5 (by decide) (fun c5 => absurd c5 (by decide)) (fun c5 => ?_)
    refine lv_iload_n hx hb dX4_mend_8 rfl (lv_at hl 2 rfl) ?_
    refine lv_iconst (v := (0 : Int32)) hx hb dX4_mend_9 (by decide) ?_
    refine lv_aload_n hx hb dX4_mend_10 rfl (lv_at hl 0 rfl) ?_
    refine zq_get hx hb hts in_X4_mend_X4 hown hK hP 0 rfl rfl 6 (by decide) (hts _ w_X4_mend__fieldLink_RX4_23_WordsBesideModel_kind_I__cf4f2c) rfl dX4_mend_11 ?_
    refine lv_iload_n hx hb dX4_mend_14 rfl (lv_at hl 1 rfl) ?_
    refine zq_ild hx hb hK hP 5 rfl i rfl (by omega) (by decide) dX4_mend_15 ?_
    refine lv_if_ne (tgt := 23) hx hb dX4_mend_16 (by decide) (fun c16 => ?_) (fun c16 => ?_)
    · refine lv_iconst (v := (0 : Int32)) hx hb dX4_mend_23 (by decide) ?_
      refine zq_cS (rest := []) ⟨hx, hb, hml, hown, hts⟩ (c_X4_in l D cI cZ cW cC wh (0 : Int32) (0 : Int32)) (va_cwS 3 hts gX4_mend_X4_in rfl rfl rfl (by decide +kernel) ⟨Nat.le_of_ble_eq_true rfl, Nat.le_of_ble_eq_true rfl⟩) hK (fun k q h => by simp at h) rfl hl.1 rfl (Nat.le_of_ble_eq_true rfl) dX4_mend_24 ⟨Nat.le_of_ble_eq_true rfl, Nat.le_of_ble_eq_true rfl⟩ (fun v hv => ?_)
      rcases hv with ⟨rfl, hyi⟩ | ⟨rfl, hyi⟩
      · refine W.eq (g2 := F0 m 27 ls [.int (1 : Int32)]) rfl ?_
        refine lv_if_ne (tgt := 33) hx hb dX4_mend_27 (by decide) (fun c27 => ?_) (fun c27 => absurd c27 (by decide))
        refine lv_iload_n hx hb dX4_mend_33 rfl (lv_at hl 2 rfl) ?_
        refine lv_if_ne (tgt := 44) hx hb dX4_mend_34 (by decide) (fun c34 => ?_) (fun c34 => ?_)
        · refine lv_aload_n hx hb dX4_mend_44 rfl (lv_at hl 0 rfl) ?_
          refine zq_get hx hb hts in_X4_mend_X4 hown hK hP 0 rfl rfl 12 (by decide) (hts _ w_X4_mend__fieldLink_RX4_117_WordsBesideModel_mendTwo_I__0b764c) rfl dX4_mend_45 ?_
          exact ret _ _ _ _ _ _ (absurd (zle0 hyi) c34) hP hD hS dX4_mend_48
        · refine lv_aload_n hx hb dX4_mend_37 rfl (lv_at hl 0 rfl) ?_
          refine zq_get hx hb hts in_X4_mend_X4 hown hK hP 0 rfl rfl 11 (by decide) (hts _ w_X4_mend__fieldLink_RX4_109_WordsBesideModel_mendOne_I__796736) rfl dX4_mend_38 ?_
          refine lv_goto (tgt := 48) hx hb dX4_mend_41 (by decide) ?_
          exact ret _ _ _ _ _ _ (by exact ⟨by rw [zmend_in hn hi hh, if_pos c34, ea1], _, _, rfl⟩) hP hD hS dX4_mend_48
      · refine W.eq (g2 := F0 m 27 ls [.int (0 : Int32)]) rfl ?_
        refine lv_if_ne (tgt := 33) hx hb dX4_mend_27 (by decide) (fun c27 => absurd c27 (by decide)) (fun c27 => ?_)
        refine lv_ldc (v := (-2147483648 : Int32)) hx hb hown (hts _ w_X4_mend__constant_RX4_64_2147483648__c0c951) dX4_mend_30 ?_
        exact ret _ _ _ _ _ _ (by exact ⟨by rw [zmend_in hn hi hh]; have w0 : ¬ wh = 0 := (fun q => hyi (by rw [q]; decide)); simp [w0, zm2, c16], _, _, rfl⟩) hP hD hS dX4_mend_32
    · refine lv_iconst (v := (1 : Int32)) hx hb dX4_mend_19 (by decide) ?_
      refine lv_goto (tgt := 24) hx hb dX4_mend_20 (by decide) ?_
      refine zq_cS (rest := []) ⟨hx, hb, hml, hown, hts⟩ (c_X4_in l D cI cZ cW cC wh (0 : Int32) (1 : Int32)) (va_cwS 3 hts gX4_mend_X4_in rfl rfl rfl (by decide +kernel) ⟨Nat.le_of_ble_eq_true rfl, Nat.le_of_ble_eq_true rfl⟩) hK (fun k q h => by simp at h) rfl hl.1 rfl (Nat.le_of_ble_eq_true rfl) dX4_mend_24 ⟨Nat.le_of_ble_eq_true rfl, Nat.le_of_ble_eq_true rfl⟩ (fun v hv => ?_)
      rcases hv with ⟨rfl, hyi⟩ | ⟨rfl, hyi⟩
      · refine W.eq (g2 := F0 m 27 ls [.int (1 : Int32)]) rfl ?_
        refine lv_if_ne (tgt := 33) hx hb dX4_mend_27 (by decide) (fun c27 => ?_) (fun c27 => absurd c27 (by decide))
        refine lv_iload_n hx hb dX4_mend_33 rfl (lv_at hl 2 rfl) ?_
        refine lv_if_ne (tgt := 44) hx hb dX4_mend_34 (by decide) (fun c34 => ?_) (fun c34 => ?_)
        · refine lv_aload_n hx hb dX4_mend_44 rfl (lv_at hl 0 rfl) ?_
          refine zq_get hx hb hts in_X4_mend_X4 hown hK hP 0 rfl rfl 12 (by decide) (hts _ w_X4_mend__fieldLink_RX4_117_WordsBesideModel_mendTwo_I__0b764c) rfl dX4_mend_45 ?_
          exact ret _ _ _ _ _ _ (by exact ⟨by rw [zmend_in hn hi hh, if_neg c34, if_pos (zle1 hyi c34), zm2, if_pos c16, ea2 c16], _, _, rfl⟩) hP hD hS dX4_mend_48
        · refine lv_aload_n hx hb dX4_mend_37 rfl (lv_at hl 0 rfl) ?_
          refine zq_get hx hb hts in_X4_mend_X4 hown hK hP 0 rfl rfl 11 (by decide) (hts _ w_X4_mend__fieldLink_RX4_109_WordsBesideModel_mendOne_I__796736) rfl dX4_mend_38 ?_
          refine lv_goto (tgt := 48) hx hb dX4_mend_41 (by decide) ?_
          exact ret _ _ _ _ _ _ (by exact ⟨by rw [zmend_in hn hi hh, if_pos c34, ea1], _, _, rfl⟩) hP hD hS dX4_mend_48
      · refine W.eq (g2 := F0 m 27 ls [.int (0 : Int32)]) rfl ?_
        refine lv_if_ne (tgt := 33) hx hb dX4_mend_27 (by decide) (fun c27 => absurd c27 (by decide)) (fun c27 => ?_)
        refine lv_ldc (v := (-2147483648 : Int32)) hx hb hown (hts _ w_X4_mend__constant_RX4_64_2147483648__c0c951) dX4_mend_30 ?_
        exact ret _ _ _ _ _ _ (by exact ⟨by rw [zmend_in hn hi hh]; have w0 : ¬ wh = 0 := (fun q => hyi (by rw [q]; decide)); have w1 : ¬ wh = 1 := (fun q => hyi (by rw [q]; decide)); simp [w0, w1], _, _, rfl⟩) hP hD hS dX4_mend_32
  · have hP : va_P D vwCl (mW cI cZ ad ln st gv oF kF fF sF bF mF hF kp cm a1 a2) H := hP
    have hD : va_D A (mW cI cZ ad ln st gv oF kF fF sF bF mF hF kp cm a1 a2) := hD
    refine W.eq (g2 := F0 m 5 ls [.int (0 : Int32)]) rfl ?_
    refine lv_if_eq (tgt := 30) hx hb dX4_mend_5 (by decide) (fun c5 => ?_) (fun c5 => absurd c5 (by decide))
    refine lv_ldc (v := (-2147483648 : Int32)) hx hb hown (hts _ w_X4_mend__constant_RX4_64_2147483648__c0c951) dX4_mend_30 ?_
    exact ret _ _ _ _ _ _ (by exact ⟨by rw [zmend_nm hno hn], _, _, rfl⟩) hP hD hS dX4_mend_32
theorem w_X4_mended__fieldLink_RX4_109_WordsBesideModel_mendOne_I__796736 : (.fieldLink RX4 109 "WordsBesideModel" "mendOne" "I" : Cond) ∈ wsX4_mended := by decide +kernel
theorem w_X4_mended__fieldLink_RX4_117_WordsBesideModel_mendTwo_I__0b764c : (.fieldLink RX4 117 "WordsBesideModel" "mendTwo" "I" : Cond) ∈ wsX4_mended := by decide +kernel
theorem w_X4_mended__fieldLink_RX4_23_WordsBesideModel_kind_I__cf4f2c : (.fieldLink RX4 23 "WordsBesideModel" "kind" "[I" : Cond) ∈ wsX4_mended := by decide +kernel
theorem w_X4_mended__fieldLink_RX4_26_WordsBesideModel_first_I__de9671 : (.fieldLink RX4 26 "WordsBesideModel" "first" "[I" : Cond) ∈ wsX4_mended := by decide +kernel
theorem w_X4_mended__fieldLink_RX4_29_WordsBesideModel_second_I__491129 : (.fieldLink RX4 29 "WordsBesideModel" "second" "[I" : Cond) ∈ wsX4_mended := by decide +kernel
theorem in_X4_mended_X4 : ∀ w ∈ wsX40, w ∈ wsX4_mended := fun _ h => List.mem_cons_of_mem _ (List.mem_append_right _ h)
set_option maxHeartbeats 4000000 in
set_option maxRecDepth 100000 in
theorem c_X4_mended (l : Launch) (D : va_G) (cI cZ cW cC : ClassId) (ad : Nat → Nat) (ln st gv oF kF fF sF bF mF hF : Nat → Int32) (kp cm m1 m2 : Int32) (fo bo : Nat → Nat) (n k : Nat) (hn : n ≤ 40) (hk : k ≤ 30) (HC : zHC fo bo oF kF fF bF n k) (hB : zB (zG gv 31) 1536) (en : cm = nI n) (cl : Int32) (sz : Nat) : zq_mu l D cI cZ cW cC yX4_mended wsX4_mended ({ frames := 7, cells := 0, slots := 0, locals := 162 } : Room) [.ref (ad 0), .int cl] (mW cI cZ ad ln st gv oF kF fF sF bF mF hF kp cm m1 m2) sz (fun v w1 => (∃ i, zmo (zG gv 31) fo kF fF sF n cl i ∧ v = some (.int 1) ∧ ∃ b1 b2 : Int32, w1 = (mW cI cZ ad ln st gv oF kF (zfF fF kF i (zm1 (zG gv 31) (fo i) (kF i) (fF i))) (zsF sF kF i (zm1 (zG gv 31) (fo i) (kF i) (fF i)) (zmst (zG gv 31) (fo i) 256)) bF mF hF kp cm b1 b2)) ∨ (¬ (∃ i, zmo (zG gv 31) fo kF fF sF n cl i) ∧ v = some (.int 0) ∧ ∃ a1 a2 : Int32, w1 = (mW cI cZ ad ln st gv oF kF fF sF bF mF hF kp cm a1 a2))) 0 0 := by
  refine zq_muZ (own := RX4) (by decide) rfl rfl (Nat.le_of_ble_eq_true rfl) ?_
  intro p e s m below meth c Q A ls hsz hF hin hA hP hK hD hS hl ret
  obtain ⟨hx, hb, hml, hown, hts⟩ := hF
  have hl : lv_has ls 2 [(0, .ref (ad 0)), (1, .int cl)] := hl
  refine lv_aload_n hx hb dX4_mended_0 rfl (lv_at hl 0 rfl) ?_
  refine lv_iload_n hx hb dX4_mended_1 rfl (lv_at hl 1 rfl) ?_
  refine zq_cM (rest := []) ⟨hx, hb, hml, hown, hts⟩ (c_X4_mends l D cI cZ cW cC ad ln st gv oF kF fF sF bF mF hF kp cm m1 m2 fo bo n k hn hk HC hB en cl _) (cwV 1 hts gX4_mended_X4_mends rfl rfl rfl (by decide +kernel) ⟨Nat.le_of_ble_eq_true rfl, Nat.le_of_ble_eq_true rfl⟩) hK hP hD hS hA 4 0 rfl rfl rfl hl.1 rfl (Nat.le_of_ble_eq_true rfl) dX4_mended_2 ⟨Nat.le_of_ble_eq_true rfl, Nat.le_of_ble_eq_true rfl⟩ (fun v w1 H locs hv hP hD hS => ?_)
  rcases hv with ⟨i, ⟨hi, rfl, hh, hne⟩, rfl, a1, a2, rfl, ea1, ea2⟩ | ⟨hno, rfl, a1, a2, rfl⟩
  · have hP : va_P D vwCl (mW cI cZ ad ln st gv oF kF fF sF bF mF hF kp cm a1 a2) H := hP
    have hD : va_D A (mW cI cZ ad ln st gv oF kF fF sF bF mF hF kp cm a1 a2) := hD
    refine W.eq (g2 := F0 m 5 ls [.int (1 : Int32)]) rfl ?_
    subst ea1
    refine lv_if_ne (tgt := 10) hx hb dX4_mended_5 (by decide) (fun c5 => ?_) (fun c5 => absurd c5 (by decide))
    refine lv_aload_n hx hb dX4_mended_10 rfl (lv_at hl 0 rfl) ?_
    refine zq_get hx hb hts in_X4_mended_X4 hown hK hP 0 rfl rfl 6 (by decide) (hts _ w_X4_mended__fieldLink_RX4_23_WordsBesideModel_kind_I__cf4f2c) rfl dX4_mended_11 ?_
    refine lv_iload_n hx hb dX4_mended_14 rfl (lv_at hl 1 rfl) ?_
    refine zq_ild hx hb hK hP 5 rfl i rfl (by omega) (by decide) dX4_mended_15 ?_
    refine lv_iconst (v := (5 : Int32)) hx hb dX4_mended_16 (by decide) ?_
    refine lv_icmp_ne (tgt := 32) hx hb dX4_mended_17 (by decide) (fun c17 => ?_) (fun c17 => ?_)
    · refine lv_aload_n hx hb dX4_mended_32 rfl (lv_at hl 0 rfl) ?_
      refine zq_get hx hb hts in_X4_mended_X4 hown hK hP 0 rfl rfl 7 (by decide) (hts _ w_X4_mended__fieldLink_RX4_26_WordsBesideModel_first_I__de9671) rfl dX4_mended_33 ?_
      refine lv_iload_n hx hb dX4_mended_36 rfl (lv_at hl 1 rfl) ?_
      refine lv_aload_n hx hb dX4_mended_37 rfl (lv_at hl 0 rfl) ?_
      refine zq_get hx hb hts in_X4_mended_X4 hown hK hP 0 rfl rfl 11 (by decide) (hts _ w_X4_mended__fieldLink_RX4_109_WordsBesideModel_mendOne_I__796736) rfl dX4_mended_38 ?_
      refine zq_ist hx hb hK hP hD hS 6 rfl i rfl (by omega) (by decide) dX4_mended_41 (fun H locs hP hD hS => ?_)
      have hP : va_P D vwCl (mW cI cZ ad ln st gv oF kF (upd fF i (zm1 (zG gv 31) (fo i) (kF i) (fF i))) sF bF mF hF kp cm (zm1 (zG gv 31) (fo i) (kF i) (fF i)) a2) H := hP
      have hD : va_D A (mW cI cZ ad ln st gv oF kF (upd fF i (zm1 (zG gv 31) (fo i) (kF i) (fF i))) sF bF mF hF kp cm (zm1 (zG gv 31) (fo i) (kF i) (fF i)) a2) := hD
      refine lv_aload_n hx hb dX4_mended_42 rfl (lv_at hl 0 rfl) ?_
      refine zq_get hx hb hts in_X4_mended_X4 hown hK hP 0 rfl rfl 6 (by decide) (hts _ w_X4_mended__fieldLink_RX4_23_WordsBesideModel_kind_I__cf4f2c) rfl dX4_mended_43 ?_
      refine lv_iload_n hx hb dX4_mended_46 rfl (lv_at hl 1 rfl) ?_
      refine zq_ild hx hb hK hP 5 rfl i rfl (by omega) (by decide) dX4_mended_47 ?_
      refine lv_if_ne (tgt := 61) hx hb dX4_mended_48 (by decide) (fun c48 => ?_) (fun c48 => ?_)
      · refine lv_iconst (v := (1 : Int32)) hx hb dX4_mended_61 (by decide) ?_
        exact ret _ _ _ _ _ _ (Or.inr rfl) (by exact Or.inl ⟨i, ⟨hi, rfl, hh, hne⟩, rfl, _, _, by rw [zfF, zsF, if_neg c17, if_neg c17, if_neg c48]⟩) hP hD hS dX4_mended_62
      · refine lv_aload_n hx hb dX4_mended_51 rfl (lv_at hl 0 rfl) ?_
        refine zq_get hx hb hts in_X4_mended_X4 hown hK hP 0 rfl rfl 8 (by decide) (hts _ w_X4_mended__fieldLink_RX4_29_WordsBesideModel_second_I__491129) rfl dX4_mended_52 ?_
        refine lv_iload_n hx hb dX4_mended_55 rfl (lv_at hl 1 rfl) ?_
        refine lv_aload_n hx hb dX4_mended_56 rfl (lv_at hl 0 rfl) ?_
        refine zq_get hx hb hts in_X4_mended_X4 hown hK hP 0 rfl rfl 12 (by decide) (hts _ w_X4_mended__fieldLink_RX4_117_WordsBesideModel_mendTwo_I__0b764c) rfl dX4_mended_57 ?_
        refine zq_ist hx hb hK hP hD hS 7 rfl i rfl (by omega) (by decide) dX4_mended_60 (fun H locs hP hD hS => ?_)
        have hP : va_P D vwCl (mW cI cZ ad ln st gv oF kF (upd fF i (zm1 (zG gv 31) (fo i) (kF i) (fF i))) (upd sF i a2) bF mF hF kp cm (zm1 (zG gv 31) (fo i) (kF i) (fF i)) a2) H := hP
        have hD : va_D A (mW cI cZ ad ln st gv oF kF (upd fF i (zm1 (zG gv 31) (fo i) (kF i) (fF i))) (upd sF i a2) bF mF hF kp cm (zm1 (zG gv 31) (fo i) (kF i) (fF i)) a2) := hD
        refine lv_iconst (v := (1 : Int32)) hx hb dX4_mended_61 (by decide) ?_
        exact ret _ _ _ _ _ _ (Or.inr rfl) (by exact Or.inl ⟨i, ⟨hi, rfl, hh, hne⟩, rfl, _, _, by rw [zfF, zsF, if_neg c17, if_neg c17, if_pos c48, ea2 c48]⟩) hP hD hS dX4_mended_62
    · refine lv_aload_n hx hb dX4_mended_20 rfl (lv_at hl 0 rfl) ?_
      refine zq_get hx hb hts in_X4_mended_X4 hown hK hP 0 rfl rfl 8 (by decide) (hts _ w_X4_mended__fieldLink_RX4_29_WordsBesideModel_second_I__491129) rfl dX4_mended_21 ?_
      refine lv_iload_n hx hb dX4_mended_24 rfl (lv_at hl 1 rfl) ?_
      refine lv_aload_n hx hb dX4_mended_25 rfl (lv_at hl 0 rfl) ?_
      refine zq_get hx hb hts in_X4_mended_X4 hown hK hP 0 rfl rfl 11 (by decide) (hts _ w_X4_mended__fieldLink_RX4_109_WordsBesideModel_mendOne_I__796736) rfl dX4_mended_26 ?_
      refine zq_ist hx hb hK hP hD hS 7 rfl i rfl (by omega) (by decide) dX4_mended_29 (fun H locs hP hD hS => ?_)
      have hP : va_P D vwCl (mW cI cZ ad ln st gv oF kF fF (upd sF i (zm1 (zG gv 31) (fo i) (kF i) (fF i))) bF mF hF kp cm (zm1 (zG gv 31) (fo i) (kF i) (fF i)) a2) H := hP
      have hD : va_D A (mW cI cZ ad ln st gv oF kF fF (upd sF i (zm1 (zG gv 31) (fo i) (kF i) (fF i))) bF mF hF kp cm (zm1 (zG gv 31) (fo i) (kF i) (fF i)) a2) := hD
      refine lv_iconst (v := (1 : Int32)) hx hb dX4_mended_30 (by decide) ?_
      exact ret _ _ _ _ _ _ (Or.inr rfl) (by exact Or.inl ⟨i, ⟨hi, rfl, hh, hne⟩, rfl, _, _, by rw [zfF, zsF, if_pos c17, if_pos c17]⟩) hP hD hS dX4_mended_31
  · have hP : va_P D vwCl (mW cI cZ ad ln st gv oF kF fF sF bF mF hF kp cm a1 a2) H := hP
    have hD : va_D A (mW cI cZ ad ln st gv oF kF fF sF bF mF hF kp cm a1 a2) := hD
    refine W.eq (g2 := F0 m 5 ls [.int (0 : Int32)]) rfl ?_
    refine lv_if_ne (tgt := 10) hx hb dX4_mended_5 (by decide) (fun c5 => absurd c5 (by decide)) (fun c5 => ?_)
    refine lv_iconst (v := (0 : Int32)) hx hb dX4_mended_8 (by decide) ?_
    exact ret _ _ _ _ _ _ (Or.inl rfl) (by exact Or.inr ⟨hno, rfl, _, _, rfl⟩) hP hD hS dX4_mended_9
