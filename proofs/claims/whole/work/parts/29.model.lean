/-! the reference: mend, mended, listed -/
theorem zle0 {x : Int32} (h : (0 : Int32) ≤ x ∧ x ≤ 0) : x = 0 := Int32.le_antisymm h.2 h.1
theorem zle1 {x : Int32} (h : (0 : Int32) ≤ x ∧ x ≤ 1) (h0 : ¬ x = 0) : x = 1 := by
  obtain ⟨j, hj, rfl⟩ := (zr_le (n := 1)).mp h
  have : j = 1 := by
    rcases Nat.lt_or_ge j 1 with q | q
    · exact absurd (show nI j = 0 by rw [show j = 0 by omega]; rfl) h0
    · omega
  rw [this]
  rfl
def zfF (fF kF : Nat → Int32) (i : Nat) (x : Int32) : Nat → Int32 := if kF i = 5 then fF else upd fF i x
def zsF (sF kF : Nat → Int32) (i : Nat) (x y : Int32) : Nat → Int32 := if kF i = 5 then upd sF i x else if kF i = 0 then upd sF i y else sF
/-- the list: by harm, the most first, of like ones by numbers -/
def zah (har : Nat → Nat) (c : Nat) : Nat → Bool := fun d => decide (har c < har d ∨ (har d = har c ∧ d < c))
def zLi (har : Nat → Nat) (n i c : Nat) : Prop := c < n ∧ 0 < har c ∧ fb_ct (zah har c) n = i
def zhar (mF : Nat → Int32) (d : Nat → Nat → Bool) : Nat → Nat := fun c => if mF c = 0 then fb_ct (d c) 256 else 0
theorem zhar_le (mF : Nat → Int32) (d : Nat → Nat → Bool) (c : Nat) : zhar mF d c ≤ 256 := by
  unfold zhar
  split
  · exact fb_ct_le _ _
  · omega
/-- those that come ahead of number c among harm g -/
def zSg (har : Nat → Nat) (g c : Nat) : Nat → Bool := fun d => decide (g < har d ∨ (har d = g ∧ d < c))
theorem zSg_y {har : Nat → Nat} {g c n : Nat} (hc : c < n) (h : har c = g) : fb_ct (zSg har g (c + 1)) n = fb_ct (zSg har g c) n + 1 := by
  have h1 := fb_ct_upd (zSg har g c) true hc
  have h2 : zSg har g c c = false := by simp [zSg, h]
  rw [h2] at h1
  simp only [Bool.false_eq_true, if_false, Nat.add_zero, if_true] at h1
  rw [← h1]
  apply fb_ct_cong
  intro k hk
  by_cases e : k = c
  · subst e
    simp [zSg, h]
  · simp only [e, if_false]
    unfold zSg
    congr 1
    apply propext
    constructor
    · rintro (q | ⟨q, r⟩)
      · exact Or.inl q
      · exact Or.inr ⟨q, by omega⟩
    · rintro (q | ⟨q, r⟩)
      · exact Or.inl q
      · exact Or.inr ⟨q, by omega⟩
theorem zSg_n {har : Nat → Nat} {g c n : Nat} (h : har c ≠ g) : fb_ct (zSg har g (c + 1)) n = fb_ct (zSg har g c) n := by
  apply fb_ct_cong
  intro k hk
  unfold zSg
  congr 1
  apply propext
  constructor
  · rintro (q | ⟨q, r⟩)
    · exact Or.inl q
    · refine Or.inr ⟨q, ?_⟩
      rcases Nat.lt_or_ge k c with z | z
      · exact z
      · exact absurd (show har c = g by rw [← q]; congr 1; omega) h
  · rintro (q | ⟨q, r⟩)
    · exact Or.inl q
    · exact Or.inr ⟨q, by omega⟩
theorem zSg_e {har : Nat → Nat} {g n : Nat} (hg : 1 ≤ g) : fb_ct (zSg har g n) n = fb_ct (zSg har (g - 1) 0) n := by
  apply fb_ct_cong
  intro k hk
  unfold zSg
  congr 1
  apply propext
  constructor
  · rintro (q | ⟨q, r⟩)
    · exact Or.inl (by omega)
    · exact Or.inl (by omega)
  · rintro (q | ⟨q, r⟩)
    · by_cases e : har k = g
      · exact Or.inr ⟨e, hk⟩
      · exact Or.inl (by omega)
    · omega
theorem zLi_no {har : Nat → Nat} {n i c : Nat} (h : fb_ct (zSg har 0 0) n ≤ i) : ¬ zLi har n i c := by
  rintro ⟨hc, hp, e⟩
  have h1 : fb_ct (zah har c) n < fb_ct (zSg har 0 0) n := by
    have h2 := fb_ct_upd (zSg har 0 0) false hc
    have h3 : zSg har 0 0 c = true := by simp [zSg, hp]
    rw [h3] at h2
    simp only [Bool.false_eq_true, if_false, Nat.add_zero, if_true] at h2
    have h4 : fb_ct (zah har c) n ≤ fb_ct (fun k => if k = c then false else zSg har 0 0 k) n := by
      apply fb_ct_sub
      intro k hk hk2
      unfold zah at hk2
      rw [decide_eq_true_eq] at hk2
      by_cases e2 : k = c
      · subst e2
        omega
      · simp only [e2, if_false, zSg, decide_eq_true_eq]
        omega
    omega
  omega
theorem zLi_one {har : Nat → Nat} {n i c d : Nat} (h1 : zLi har n i c) (h2 : zLi har n i d) : c = d := by
  have key : ∀ c d, zLi har n i c → zLi har n i d → (har c < har d ∨ (har d = har c ∧ d < c)) → False := by
    rintro c d ⟨hc, -, e1⟩ ⟨hd, -, e2⟩ h
    have h2 := fb_ct_upd (zah har c) false hd
    have h3 : zah har c d = true := by unfold zah; rw [decide_eq_true_eq]; exact h
    rw [h3] at h2
    simp only [Bool.false_eq_true, if_false, Nat.add_zero, if_true] at h2
    have h4 : fb_ct (zah har d) n ≤ fb_ct (fun k => if k = d then false else zah har c k) n := by
      apply fb_ct_sub
      intro k hk hk2
      unfold zah at hk2
      rw [decide_eq_true_eq] at hk2
      by_cases e : k = d
      · subst e
        omega
      · simp only [e, if_false, zah, decide_eq_true_eq]
        omega
    omega
  rcases Nat.lt_trichotomy (har c) (har d) with q | q | q
  · exact (key c d h1 h2 (Or.inl q)).elim
  · rcases Nat.lt_trichotomy c d with z | z | z
    · exact (key d c h2 h1 (Or.inr ⟨q, z⟩)).elim
    · exact z
    · exact (key c d h1 h2 (Or.inr ⟨q.symm, z⟩)).elim
  · exact (key d c h2 h1 (Or.inl q)).elim

theorem w_X4_mend__constant_RX4_64_2147483648__c0c951 : (.constant RX4 64 (-2147483648) : Cond) ∈ wsX4_mend := by decide +kernel
theorem w_X4_mend__fieldLink_RX4_109_WordsBesideModel_mendOne_I__796736 : (.fieldLink RX4 109 "WordsBesideModel" "mendOne" "I" : Cond) ∈ wsX4_mend := by decide +kernel
theorem w_X4_mend__fieldLink_RX4_117_WordsBesideModel_mendTwo_I__0b764c : (.fieldLink RX4 117 "WordsBesideModel" "mendTwo" "I" : Cond) ∈ wsX4_mend := by decide +kernel
theorem w_X4_mend__fieldLink_RX4_23_WordsBesideModel_kind_I__cf4f2c : (.fieldLink RX4 23 "WordsBesideModel" "kind" "[I" : Cond) ∈ wsX4_mend := by decide +kernel
theorem in_X4_mend_X4 : ∀ w ∈ wsX40, w ∈ wsX4_mend := fun _ h => List.mem_cons_of_mem _ (List.mem_append_right _ h)
set_option maxHeartbeats 4000000 in
set_option maxRecDepth 100000 in
theorem c_X4_mend (l : Launch) (D : va_G) (cI cZ cW cC : ClassId) (ad : Nat → Nat) (ln st gv oF kF fF sF bF mF hF : Nat → Int32) (kp cm m1 m2 : Int32) (fo bo : Nat → Nat) (n k : Nat) (hn : n ≤ 40) (hk : k ≤ 30) (HC : zHC fo bo oF kF fF bF n k) (hB : zB (zG gv 31) 1536) (en : cm = nI n) (cl wh : Int32) (sz : Nat) : zq_mu l D cI cZ cW cC yX4_mend wsX4_mend ({ frames := 7, cells := 0, slots := 0, locals := 162 } : Room) [.ref (ad 0), .int cl, .int wh] (mW cI cZ ad ln st gv oF kF fF sF bF mF hF kp cm m1 m2) sz (fun v w1 => v = some (.int (zmend (zG gv 31) fo kF fF sF n cl wh)) ∧ ∃ a1 a2 : Int32, w1 = (mW cI cZ ad ln st gv oF kF fF sF bF mF hF kp cm a1 a2)) 0 0 := by
  refine zq_muI (own := RX4) (by decide) rfl rfl (Nat.le_of_ble_eq_true rfl) ?_
  intro p e s m below meth c Q A ls hsz hF hin hA hP hK hD hS hl ret
  obtain ⟨hx, hb, hml, hown, hts⟩ := hF
  have hl : lv_has ls 3 [(0, .ref (ad 0)), (1, .int cl), (2, .int wh)] := hl
  refine lv_aload_n hx hb dX4_mend_0 rfl (lv_at hl 0 rfl) ?_
  refine lv_iload_n hx hb dX4_mend_1 rfl (lv_at hl 1 rfl) ?_
  refine zq_cM (rest := []) ⟨hx, hb, hml, hown, hts⟩ (c_X4_mends l D cI cZ cW cC ad ln st gv oF kF fF sF bF mF hF kp cm m1 m2 fo bo n k hn hk HC hB en cl _) (cwV 1 hts gX4_mend_X4_mends rfl rfl rfl (by decide +kernel) ⟨Nat.le_of_ble_eq_true rfl, Nat.le_of_ble_eq_true rfl⟩) hK hP hD hS hA 4 0 rfl rfl rfl hl.1 rfl (Nat.le_of_ble_eq_true rfl) dX4_mend_2 ⟨Nat.le_of_ble_eq_true rfl, Nat.le_of_ble_eq_true rfl⟩ (fun v w1 H locs hv hP hD hS => ?_)
  rcases hv with ⟨i, ⟨hi, rfl, hh, hne⟩, rfl, a1, a2, rfl, ea1, ea2⟩ | ⟨hno, rfl, a1, a2, rfl⟩
  · have hP : va_P D vwCl (mW cI cZ ad ln st gv oF kF fF sF bF mF hF kp cm a1 a2) H := hP
    have hD : va_D A (mW cI cZ ad ln st gv oF kF fF sF bF mF hF kp cm a1 a2) := hD
    refine W.eq (g2 := F0 m 5 ls [.int (1 : Int32)]) rfl ?_
    refine lv_if_eq (tgt := 30) hx hb dX4_mend_5 (by decide) (fun c5 => absurd c5 (by decide)) (fun c5 => ?_)
    refine lv_iload_n hx hb dX4_mend_8 rfl (lv_at hl 2 rfl) ?_
    refine lv_iconst (v := (0 : Int32)) hx hb dX4_mend_9 (by decide) ?_
    refine lv_aload_n hx hb dX4_mend_10 rfl (lv_at hl 0 rfl) ?_
    refine zq_get hx hb hts in_X4_mend_X4 hown hK hP 0 rfl rfl 6 (by decide) (hts _ w_X4_mend__fieldLink_RX4_23_WordsBesideModel_kind_I__cf4f2c) rfl dX4_mend_11 ?_
    refine lv_iload_n hx hb dX4_mend_14 rfl (lv_at hl 1 rfl) ?_
    refine zq_ild hx hb hK hP 5 rfl i rfl (by omega) (by decide) dX4_mend_15 ?_
    refine lv_if_ne (tgt := 23) hx hb dX4_mend_16 (by decide) (fun c16 => ?_) (fun c16 => ?_)
    · refine lv_iconst (v := (0 : Int32)) hx hb dX4_mend_23 (by decide) ?_
      refine zq_cS (rest := []) ⟨hx, hb, hml, hown, hts⟩ (c_X4_in l D cI cZ cW cC wh (0 : Int32) (0 : Int32)) (va_cwS 3 hts gX4_mend_X4_in rfl rfl rfl (by decide +kernel) ⟨Nat.le_of_ble_eq_true rfl, Nat.le_of_ble_eq_true rfl⟩) hK (fun k q h => by simp at h) rfl hl.1 rfl (Nat.le_of_ble_eq_true rfl) dX4_mend_24 ⟨Nat.le_of_ble_eq_true rfl, Nat.le_of_ble_eq_true rfl⟩ (fun v hv => ?_)
      rcases hv with ⟨rfl, hyi⟩ | ⟨rfl, hyi⟩
      · refine W.eq (g2 := F0 m 27 ls [.int (1 : Int32)]) rfl ?_
        refine lv_if_ne (tgt := 33) hx hb dX4_mend_27 (by decide) (fun c27 => ?_) (fun c27 => absurd c27 (by decide))
        refine lv_iload_n hx hb dX4_mend_33 rfl (lv_at hl 2 rfl) ?_
        refine lv_if_ne (tgt := 44) hx hb dX4_mend_34 (by decide) (fun c34 => ?_) (fun c34 => ?_)
        · refine lv_aload_n hx hb dX4_mend_44 rfl (lv_at hl 0 rfl) ?_
          refine zq_get hx hb hts in_X4_mend_X4 hown hK hP 0 rfl rfl 12 (by decide) (hts _ w_X4_mend__fieldLink_RX4_117_WordsBesideModel_mendTwo_I__0b764c) rfl dX4_mend_45 ?_
          exact ret _ _ _ _ _ _ (absurd (zle0 hyi) c34) hP hD hS dX4_mend_48
        · refine lv_aload_n hx hb dX4_mend_37 rfl (lv_at hl 0 rfl) ?_
          refine zq_get hx hb hts in_X4_mend_X4 hown hK hP 0 rfl rfl 11 (by decide) (hts _ w_X4_mend__fieldLink_RX4_109_WordsBesideModel_mendOne_I__796736) rfl dX4_mend_38 ?_
          refine lv_goto (tgt := 48) hx hb dX4_mend_41 (by decide) ?_
          exact ret _ _ _ _ _ _ (by exact ⟨by rw [zmend_in hn hi hh, if_pos c34, ea1], _, _, rfl⟩) hP hD hS dX4_mend_48
      · refine W.eq (g2 := F0 m 27 ls [.int (0 : Int32)]) rfl ?_
        refine lv_if_ne (tgt := 33) hx hb dX4_mend_27 (by decide) (fun c27 => absurd c27 (by decide)) (fun c27 => ?_)
        refine lv_ldc (v := (-2147483648 : Int32)) hx hb hown (hts _ w_X4_mend__constant_RX4_64_2147483648__c0c951) dX4_mend_30 ?_
        exact ret _ _ _ _ _ _ (by exact ⟨by rw [zmend_in hn hi hh]; have w0 : ¬ wh = 0 := (fun q => hyi (by rw [q]; decide)); simp [w0, zm2, c16], _, _, rfl⟩) hP hD hS dX4_mend_32
    · refine lv_iconst (v := (1 : Int32)) hx hb dX4_mend_19 (by decide) ?_
      refine lv_goto (tgt := 24) hx hb dX4_mend_20 (by decide) ?_
      refine zq_cS (rest := []) ⟨hx, hb, hml, hown, hts⟩ (c_X4_in l D cI cZ cW cC wh (0 : Int32) (1 : Int32)) (va_cwS 3 hts gX4_mend_X4_in rfl rfl rfl (by decide +kernel) ⟨Nat.le_of_ble_eq_true rfl, Nat.le_of_ble_eq_true rfl⟩) hK (fun k q h => by simp at h) rfl hl.1 rfl (Nat.le_of_ble_eq_true rfl) dX4_mend_24 ⟨Nat.le_of_ble_eq_true rfl, Nat.le_of_ble_eq_true rfl⟩ (fun v hv => ?_)
      rcases hv with ⟨rfl, hyi⟩ | ⟨rfl, hyi⟩
      · refine W.eq (g2 := F0 m 27 ls [.int (1 : Int32)]) rfl ?_
        refine lv_if_ne (tgt := 33) hx hb dX4_mend_27 (by decide) (fun c27 => ?_) (fun c27 => absurd c27 (by decide))
        refine lv_iload_n hx hb dX4_mend_33 rfl (lv_at hl 2 rfl) ?_
        refine lv_if_ne (tgt := 44) hx hb dX4_mend_34 (by decide) (fun c34 => ?_) (fun c34 => ?_)
        · refine lv_aload_n hx hb dX4_mend_44 rfl (lv_at hl 0 rfl) ?_
          refine zq_get hx hb hts in_X4_mend_X4 hown hK hP 0 rfl rfl 12 (by decide) (hts _ w_X4_mend__fieldLink_RX4_117_WordsBesideModel_mendTwo_I__0b764c) rfl dX4_mend_45 ?_
          exact ret _ _ _ _ _ _ (by exact ⟨by rw [zmend_in hn hi hh, if_neg c34, if_pos (zle1 hyi c34), zm2, if_pos c16, ea2 c16], _, _, rfl⟩) hP hD hS dX4_mend_48
        · refine lv_aload_n hx hb dX4_mend_37 rfl (lv_at hl 0 rfl) ?_
          refine zq_get hx hb hts in_X4_mend_X4 hown hK hP 0 rfl rfl 11 (by decide) (hts _ w_X4_mend__fieldLink_RX4_109_WordsBesideModel_mendOne_I__796736) rfl dX4_mend_38 ?_
          refine lv_goto (tgt := 48) hx hb dX4_mend_41 (by decide) ?_
          exact ret _ _ _ _ _ _ (by exact ⟨by rw [zmend_in hn hi hh, if_pos c34, ea1], _, _, rfl⟩) hP hD hS dX4_mend_48
      · refine W.eq (g2 := F0 m 27 ls [.int (0 : Int32)]) rfl ?_
        refine lv_if_ne (tgt := 33) hx hb dX4_mend_27 (by decide) (fun c27 => absurd c27 (by decide)) (fun c27 => ?_)
        refine lv_ldc (v := (-2147483648 : Int32)) hx hb hown (hts _ w_X4_mend__constant_RX4_64_2147483648__c0c951) dX4_mend_30 ?_
        exact ret _ _ _ _ _ _ (by exact ⟨by rw [zmend_in hn hi hh]; have w0 : ¬ wh = 0 := (fun q => hyi (by rw [q]; decide)); have w1 : ¬ wh = 1 := (fun q => hyi (by rw [q]; decide)); simp [w0, w1], _, _, rfl⟩) hP hD hS dX4_mend_32
  · have hP : va_P D vwCl (mW cI cZ ad ln st gv oF kF fF sF bF mF hF kp cm a1 a2) H := hP
    have hD : va_D A (mW cI cZ ad ln st gv oF kF fF sF bF mF hF kp cm a1 a2) := hD
    refine W.eq (g2 := F0 m 5 ls [.int (0 : Int32)]) rfl ?_
    refine lv_if_eq (tgt := 30) hx hb dX4_mend_5 (by decide) (fun c5 => ?_) (fun c5 => absurd c5 (by decide))
    refine lv_ldc (v := (-2147483648 : Int32)) hx hb hown (hts _ w_X4_mend__constant_RX4_64_2147483648__c0c951) dX4_mend_30 ?_
    exact ret _ _ _ _ _ _ (by exact ⟨by rw [zmend_nm hno hn], _, _, rfl⟩) hP hD hS dX4_mend_32
theorem w_X4_mended__fieldLink_RX4_109_WordsBesideModel_mendOne_I__796736 : (.fieldLink RX4 109 "WordsBesideModel" "mendOne" "I" : Cond) ∈ wsX4_mended := by decide +kernel
theorem w_X4_mended__fieldLink_RX4_117_WordsBesideModel_mendTwo_I__0b764c : (.fieldLink RX4 117 "WordsBesideModel" "mendTwo" "I" : Cond) ∈ wsX4_mended := by decide +kernel
theorem w_X4_mended__fieldLink_RX4_23_WordsBesideModel_kind_I__cf4f2c : (.fieldLink RX4 23 "WordsBesideModel" "kind" "[I" : Cond) ∈ wsX4_mended := by decide +kernel
theorem w_X4_mended__fieldLink_RX4_26_WordsBesideModel_first_I__de9671 : (.fieldLink RX4 26 "WordsBesideModel" "first" "[I" : Cond) ∈ wsX4_mended := by decide +kernel
theorem w_X4_mended__fieldLink_RX4_29_WordsBesideModel_second_I__491129 : (.fieldLink RX4 29 "WordsBesideModel" "second" "[I" : Cond) ∈ wsX4_mended := by decide +kernel
theorem in_X4_mended_X4 : ∀ w ∈ wsX40, w ∈ wsX4_mended := fun _ h => List.mem_cons_of_mem _ (List.mem_append_right _ h)
set_option maxHeartbeats 4000000 in
set_option maxRecDepth 100000 in
theorem c_X4_mended (l : Launch) (D : va_G) (cI cZ cW cC : ClassId) (ad : Nat → Nat) (ln st gv oF kF fF sF bF mF hF : Nat → Int32) (kp cm m1 m2 : Int32) (fo bo : Nat → Nat) (n k : Nat) (hn : n ≤ 40) (hk : k ≤ 30) (HC : zHC fo bo oF kF fF bF n k) (hB : zB (zG gv 31) 1536) (en : cm = nI n) (cl : Int32) (sz : Nat) : zq_mu l D cI cZ cW cC yX4_mended wsX4_mended ({ frames := 7, cells := 0, slots := 0, locals := 162 } : Room) [.ref (ad 0), .int cl] (mW cI cZ ad ln st gv oF kF fF sF bF mF hF kp cm m1 m2) sz (fun v w1 => (∃ i, zmo (zG gv 31) fo kF fF sF n cl i ∧ v = some (.int 1) ∧ ∃ b1 b2 : Int32, w1 = (mW cI cZ ad ln st gv oF kF (zfF fF kF i (zm1 (zG gv 31) (fo i) (kF i) (fF i))) (zsF sF kF i (zm1 (zG gv 31) (fo i) (kF i) (fF i)) (zmst (zG gv 31) (fo i) 256)) bF mF hF kp cm b1 b2)) ∨ (¬ (∃ i, zmo (zG gv 31) fo kF fF sF n cl i) ∧ v = some (.int 0) ∧ ∃ a1 a2 : Int32, w1 = (mW cI cZ ad ln st gv oF kF fF sF bF mF hF kp cm a1 a2))) 0 0 := by
  refine zq_muZ (own := RX4) (by decide) rfl rfl (Nat.le_of_ble_eq_true rfl) ?_
  intro p e s m below meth c Q A ls hsz hF hin hA hP hK hD hS hl ret
  obtain ⟨hx, hb, hml, hown, hts⟩ := hF
  have hl : lv_has ls 2 [(0, .ref (ad 0)), (1, .int cl)] := hl
  refine lv_aload_n hx hb dX4_mended_0 rfl (lv_at hl 0 rfl) ?_
  refine lv_iload_n hx hb dX4_mended_1 rfl (lv_at hl 1 rfl) ?_
  refine zq_cM (rest := []) ⟨hx, hb, hml, hown, hts⟩ (c_X4_mends l D cI cZ cW cC ad ln st gv oF kF fF sF bF mF hF kp cm m1 m2 fo bo n k hn hk HC hB en cl _) (cwV 1 hts gX4_mended_X4_mends rfl rfl rfl (by decide +kernel) ⟨Nat.le_of_ble_eq_true rfl, Nat.le_of_ble_eq_true rfl⟩) hK hP hD hS hA 4 0 rfl rfl rfl hl.1 rfl (Nat.le_of_ble_eq_true rfl) dX4_mended_2 ⟨Nat.le_of_ble_eq_true rfl, Nat.le_of_ble_eq_true rfl⟩ (fun v w1 H locs hv hP hD hS => ?_)
  rcases hv with ⟨i, ⟨hi, rfl, hh, hne⟩, rfl, a1, a2, rfl, ea1, ea2⟩ | ⟨hno, rfl, a1, a2, rfl⟩
  · have hP : va_P D vwCl (mW cI cZ ad ln st gv oF kF fF sF bF mF hF kp cm a1 a2) H := hP
    have hD : va_D A (mW cI cZ ad ln st gv oF kF fF sF bF mF hF kp cm a1 a2) := hD
    refine W.eq (g2 := F0 m 5 ls [.int (1 : Int32)]) rfl ?_
    subst ea1
    refine lv_if_ne (tgt := 10) hx hb dX4_mended_5 (by decide) (fun c5 => ?_) (fun c5 => absurd c5 (by decide))
    refine lv_aload_n hx hb dX4_mended_10 rfl (lv_at hl 0 rfl) ?_
    refine zq_get hx hb hts in_X4_mended_X4 hown hK hP 0 rfl rfl 6 (by decide) (hts _ w_X4_mended__fieldLink_RX4_23_WordsBesideModel_kind_I__cf4f2c) rfl dX4_mended_11 ?_
    refine lv_iload_n hx hb dX4_mended_14 rfl (lv_at hl 1 rfl) ?_
    refine zq_ild hx hb hK hP 5 rfl i rfl (by omega) (by decide) dX4_mended_15 ?_
    refine lv_iconst (v := (5 : Int32)) hx hb dX4_mended_16 (by decide) ?_
    refine lv_icmp_ne (tgt := 32) hx hb dX4_mended_17 (by decide) (fun c17 => ?_) (fun c17 => ?_)
    · refine lv_aload_n hx hb dX4_mended_32 rfl (lv_at hl 0 rfl) ?_
      refine zq_get hx hb hts in_X4_mended_X4 hown hK hP 0 rfl rfl 7 (by decide) (hts _ w_X4_mended__fieldLink_RX4_26_WordsBesideModel_first_I__de9671) rfl dX4_mended_33 ?_
      refine lv_iload_n hx hb dX4_mended_36 rfl (lv_at hl 1 rfl) ?_
      refine lv_aload_n hx hb dX4_mended_37 rfl (lv_at hl 0 rfl) ?_
      refine zq_get hx hb hts in_X4_mended_X4 hown hK hP 0 rfl rfl 11 (by decide) (hts _ w_X4_mended__fieldLink_RX4_109_WordsBesideModel_mendOne_I__796736) rfl dX4_mended_38 ?_
      refine zq_ist hx hb hK hP hD hS 6 rfl i rfl (by omega) (by decide) dX4_mended_41 (fun H locs hP hD hS => ?_)
      have hP : va_P D vwCl (mW cI cZ ad ln st gv oF kF (upd fF i (zm1 (zG gv 31) (fo i) (kF i) (fF i))) sF bF mF hF kp cm (zm1 (zG gv 31) (fo i) (kF i) (fF i)) a2) H := hP
      have hD : va_D A (mW cI cZ ad ln st gv oF kF (upd fF i (zm1 (zG gv 31) (fo i) (kF i) (fF i))) sF bF mF hF kp cm (zm1 (zG gv 31) (fo i) (kF i) (fF i)) a2) := hD
      refine lv_aload_n hx hb dX4_mended_42 rfl (lv_at hl 0 rfl) ?_
      refine zq_get hx hb hts in_X4_mended_X4 hown hK hP 0 rfl rfl 6 (by decide) (hts _ w_X4_mended__fieldLink_RX4_23_WordsBesideModel_kind_I__cf4f2c) rfl dX4_mended_43 ?_
      refine lv_iload_n hx hb dX4_mended_46 rfl (lv_at hl 1 rfl) ?_
      refine zq_ild hx hb hK hP 5 rfl i rfl (by omega) (by decide) dX4_mended_47 ?_
      refine lv_if_ne (tgt := 61) hx hb dX4_mended_48 (by decide) (fun c48 => ?_) (fun c48 => ?_)
      · refine lv_iconst (v := (1 : Int32)) hx hb dX4_mended_61 (by decide) ?_
        exact ret _ _ _ _ _ _ (Or.inr rfl) (by exact Or.inl ⟨i, ⟨hi, rfl, hh, hne⟩, rfl, _, _, by rw [zfF, zsF, if_neg c17, if_neg c17, if_neg c48]⟩) hP hD hS dX4_mended_62
      · refine lv_aload_n hx hb dX4_mended_51 rfl (lv_at hl 0 rfl) ?_
        refine zq_get hx hb hts in_X4_mended_X4 hown hK hP 0 rfl rfl 8 (by decide) (hts _ w_X4_mended__fieldLink_RX4_29_WordsBesideModel_second_I__491129) rfl dX4_mended_52 ?_
        refine lv_iload_n hx hb dX4_mended_55 rfl (lv_at hl 1 rfl) ?_
        refine lv_aload_n hx hb dX4_mended_56 rfl (lv_at hl 0 rfl) ?_
        refine zq_get hx hb hts in_X4_mended_X4 hown hK hP 0 rfl rfl 12 (by decide) (hts _ w_X4_mended__fieldLink_RX4_117_WordsBesideModel_mendTwo_I__0b764c) rfl dX4_mended_57 ?_
        refine zq_ist hx hb hK hP hD hS 7 rfl i rfl (by omega) (by decide) dX4_mended_60 (fun H locs hP hD hS => ?_)
        have hP : va_P D vwCl (mW cI cZ ad ln st gv oF kF (upd fF i (zm1 (zG gv 31) (fo i) (kF i) (fF i))) (upd sF i a2) bF mF hF kp cm (zm1 (zG gv 31) (fo i) (kF i) (fF i)) a2) H := hP
        have hD : va_D A (mW cI cZ ad ln st gv oF kF (upd fF i (zm1 (zG gv 31) (fo i) (kF i) (fF i))) (upd sF i a2) bF mF hF kp cm (zm1 (zG gv 31) (fo i) (kF i) (fF i)) a2) := hD
        refine lv_iconst (v := (1 : Int32)) hx hb dX4_mended_61 (by decide) ?_
        exact ret _ _ _ _ _ _ (Or.inr rfl) (by exact Or.inl ⟨i, ⟨hi, rfl, hh, hne⟩, rfl, _, _, by rw [zfF, zsF, if_neg c17, if_neg c17, if_pos c48, ea2 c48]⟩) hP hD hS dX4_mended_62
    · refine lv_aload_n hx hb dX4_mended_20 rfl (lv_at hl 0 rfl) ?_
      refine zq_get hx hb hts in_X4_mended_X4 hown hK hP 0 rfl rfl 8 (by decide) (hts _ w_X4_mended__fieldLink_RX4_29_WordsBesideModel_second_I__491129) rfl dX4_mended_21 ?_
      refine lv_iload_n hx hb dX4_mended_24 rfl (lv_at hl 1 rfl) ?_
      refine lv_aload_n hx hb dX4_mended_25 rfl (lv_at hl 0 rfl) ?_
      refine zq_get hx hb hts in_X4_mended_X4 hown hK hP 0 rfl rfl 11 (by decide) (hts _ w_X4_mended__fieldLink_RX4_109_WordsBesideModel_mendOne_I__796736) rfl dX4_mended_26 ?_
      refine zq_ist hx hb hK hP hD hS 7 rfl i rfl (by omega) (by decide) dX4_mended_29 (fun H locs hP hD hS => ?_)
      have hP : va_P D vwCl (mW cI cZ ad ln st gv oF kF fF (upd sF i (zm1 (zG gv 31) (fo i) (kF i) (fF i))) bF mF hF kp cm (zm1 (zG gv 31) (fo i) (kF i) (fF i)) a2) H := hP
      have hD : va_D A (mW cI cZ ad ln st gv oF kF fF (upd sF i (zm1 (zG gv 31) (fo i) (kF i) (fF i))) bF mF hF kp cm (zm1 (zG gv 31) (fo i) (kF i) (fF i)) a2) := hD
      refine lv_iconst (v := (1 : Int32)) hx hb dX4_mended_30 (by decide) ?_
      exact ret _ _ _ _ _ _ (Or.inr rfl) (by exact Or.inl ⟨i, ⟨hi, rfl, hh, hne⟩, rfl, _, _, by rw [zfF, zsF, if_pos c17, if_pos c17]⟩) hP hD hS dX4_mended_31
  · have hP : va_P D vwCl (mW cI cZ ad ln st gv oF kF fF sF bF mF hF kp cm a1 a2) H := hP
    have hD : va_D A (mW cI cZ ad ln st gv oF kF fF sF bF mF hF kp cm a1 a2) := hD
    refine W.eq (g2 := F0 m 5 ls [.int (0 : Int32)]) rfl ?_
    refine lv_if_ne (tgt := 10) hx hb dX4_mended_5 (by decide) (fun c5 => absurd c5 (by decide)) (fun c5 => ?_)
    refine lv_iconst (v := (0 : Int32)) hx hb dX4_mended_8 (by decide) ?_
    exact ret _ _ _ _ _ _ (Or.inl rfl) (by exact Or.inr ⟨hno, rfl, _, _, rfl⟩) hP hD hS dX4_mended_9
theorem w_X4_listed__fieldLink_RX4_35_WordsBesideModel_isMarked_Z__f949ba : (.fieldLink RX4 35 "WordsBesideModel" "isMarked" "[Z" : Cond) ∈ wsX4_listed := by decide +kernel
theorem w_X4_listed__fieldLink_RX4_39_WordsBesideModel_harms_I__36a1ff : (.fieldLink RX4 39 "WordsBesideModel" "harms" "[I" : Cond) ∈ wsX4_listed := by decide +kernel
theorem w_X4_listed__fieldLink_RX4_79_WordsBesideModel_claims_I__a0b76b : (.fieldLink RX4 79 "WordsBesideModel" "claims" "I" : Cond) ∈ wsX4_listed := by decide +kernel
theorem in_X4_listed_X4 : ∀ w ∈ wsX40, w ∈ wsX4_listed := fun _ h => List.mem_cons_of_mem _ (List.mem_append_right _ h)
set_option maxHeartbeats 4000000 in
set_option maxRecDepth 100000 in
theorem c_X4_listed (l : Launch) (D : va_G) (cI cZ cW cC : ClassId) (ad : Nat → Nat) (ln st gv oF kF fF sF bF mF hF : Nat → Int32) (kp cm m1 m2 : Int32) (fo bo : Nat → Nat) (n k : Nat) (hn : n ≤ 40) (hk : k ≤ 30) (HC : zHC fo bo oF kF fF bF n k) (en : cm = nI n) (x : Int32) (sz : Nat) : zq_mu l D cI cZ cW cC yX4_listed wsX4_listed ({ frames := 4, cells := 0, slots := 0, locals := 96 } : Room) [.ref (ad 0), .int x] (mW cI cZ ad ln st gv oF kF fF sF bF mF hF kp cm m1 m2) sz (fun v w1 => ((∃ c xn, xn < 2 ^ 31 ∧ x = nI xn ∧ zLi (zhar mF (zdn (zG gv 31) fo kF fF sF)) n xn c ∧ v = some (.int (nI c))) ∨ ((¬ ∃ c xn, xn < 2 ^ 31 ∧ x = nI xn ∧ zLi (zhar mF (zdn (zG gv 31) fo kF fF sF)) n xn c) ∧ v = some (.int (-1)))) ∧ ∃ h2 : Nat → Int32, w1 = (mW cI cZ ad ln st gv oF kF fF sF bF mF h2 kp cm m1 m2)) 0 0 := by
  refine zq_muI (own := RX4) (by decide) rfl rfl (Nat.le_of_ble_eq_true rfl) ?_
  intro p e s m below meth c Q A ls hsz hF hin hA hP hK hD hS hl ret
  obtain ⟨hx, hb, hml, hown, hts⟩ := hF
  have hl : lv_has ls 5 [(0, .ref (ad 0)), (1, .int x)] := hl
  refine lv_iconst (v := (nI 0)) hx hb dX4_listed_0 (by decide) ?_
  refine lv_istore_n (lv' := [(2, .int (nI 0)), (0, .ref (ad 0)), (1, .int x)]) hx hb dX4_listed_1 rfl hl (by decide) rfl (fun ls hl => ?_)
  have loop2 : ∀ (fu2 : Nat) (j : Nat) (hk2 : Nat → Int32) (H : Heap) (locs : List Loc) (ls : Array Slot), (n - j) < fu2 → (j ≤ n) → (∀ q, q < j → hk2 q = nI ((zhar mF (zdn (zG gv 31) fo kF fF sF)) q)) → va_P D vwCl (mW cI cZ ad ln st gv oF kF fF sF bF mF hk2 kp cm m1 m2) H → va_D A (mW cI cZ ad ln st gv oF kF fF sF bF mF hk2 kp cm m1 m2) → va_S A s.heap H locs → lv_has ls 5 [(0, .ref (ad 0)), (1, .int x), (2, .int (nI j))] → W p l e ({ frames := 4, cells := 0, slots := 0, locals := 96 } : Room) s m ([.ref (ad 0), .int x] : List Value).toArray below meth c H locs 0 0 Q (F0 m 2 ls []) := by
    intro fu2
    induction fu2 with
    | zero => intro _ _ _ _ _ hmu; exact absurd hmu (Nat.not_lt_zero _)
    | succ fu2 ih2 =>
      intro j hk2 H locs ls hmu2 hj hh hP hD hS hl
      refine lv_iload_n hx hb dX4_listed_2 rfl (lv_at hl 2 rfl) ?_
      refine lv_aload_n hx hb dX4_listed_3 rfl (lv_at hl 0 rfl) ?_
      refine zq_get hx hb hts in_X4_listed_X4 hown hK hP 0 rfl rfl 4 (by decide) (hts _ w_X4_listed__fieldLink_RX4_79_WordsBesideModel_claims_I__a0b76b) rfl dX4_listed_4 ?_
      refine zq_te (y := (nI n)) en ?_
      refine lv_icmp_ge (tgt := 42) hx hb dX4_listed_7 (by decide) (fun c7 => ?_) (fun c7 => ?_)
      · have h7 := zle c7
        have hj2 : ∀ q, q < n → hk2 q = nI ((zhar mF (zdn (zG gv 31) fo kF fF sF)) q) := fun q hq => hh q (by omega)
        by_cases hx0 : x < 0
        · skip
          have hj2 : ∀ q, q < n → hk2 q = nI ((zhar mF (zdn (zG gv 31) fo kF fF sF)) q) := fun q hq => hh q (by omega)
          refine lv_iload_n hx hb dX4_listed_42 rfl (lv_at hl 1 rfl) ?_
          refine lv_istore_n (lv' := [(2, .int x), (0, .ref (ad 0)), (1, .int x)]) hx hb dX4_listed_43 rfl hl (by decide) rfl (fun ls hl => ?_)
          refine lv_sipush (v := (nI 256)) hx hb dX4_listed_44 (by decide) ?_
          refine lv_istore_n (lv' := [(3, .int (nI 256)), (2, .int x), (0, .ref (ad 0)), (1, .int x)]) hx hb dX4_listed_47 rfl hl (by decide) rfl (fun ls hl => ?_)
          refine lv_iload_n hx hb dX4_listed_48 rfl (lv_at hl 0 rfl) ?_
          refine lv_if_le (tgt := 104) hx hb dX4_listed_49 (by decide) (fun c49 => absurd c49 (by decide)) (fun c49 => ?_)
          refine lv_iload_n hx hb dX4_listed_52 rfl (lv_at hl 3 rfl) ?_
          refine lv_if_lt (tgt := 104) hx hb dX4_listed_53 (by decide) (fun c53 => ?_) (fun c53 => absurd hx0 c53)
          refine lv_iconst (v := (-1 : Int32)) hx hb dX4_listed_104 (by decide) ?_
          exact ret _ _ _ _ _ _ (by exact ⟨Or.inr ⟨(fun ⟨c, xn, h0, e, _⟩ => nI_pos h0 (e ▸ hx0)), rfl⟩, _, rfl⟩) hP hD hS dX4_listed_105
        · obtain ⟨xn, hxn, rfl⟩ := nI_of hx0
          have hj2 : ∀ q, q < n → hk2 q = nI ((zhar mF (zdn (zG gv 31) fo kF fF sF)) q) := fun q hq => hh q (by omega)
          refine lv_iload_n hx hb dX4_listed_42 rfl (lv_at hl 1 rfl) ?_
          refine lv_istore_n (lv' := [(2, .int (nI xn)), (0, .ref (ad 0)), (1, .int (nI xn))]) hx hb dX4_listed_43 rfl hl (by decide) rfl (fun ls hl => ?_)
          refine lv_sipush (v := (nI 256)) hx hb dX4_listed_44 (by decide) ?_
          refine lv_istore_n (lv' := [(3, .int (nI 256)), (2, .int (nI xn)), (0, .ref (ad 0)), (1, .int (nI xn))]) hx hb dX4_listed_47 rfl hl (by decide) rfl (fun ls hl => ?_)
          have loop48 : ∀ (fu48 : Nat) (g lf : Nat) (H : Heap) (locs : List Loc) (ls : Array Slot), (g) < fu48 → (g ≤ 256) → (xn = lf + fb_ct (zSg (zhar mF (zdn (zG gv 31) fo kF fF sF)) g 0) n) → va_P D vwCl (mW cI cZ ad ln st gv oF kF fF sF bF mF hk2 kp cm m1 m2) H → va_D A (mW cI cZ ad ln st gv oF kF fF sF bF mF hk2 kp cm m1 m2) → va_S A s.heap H locs → lv_has ls 5 [(0, .ref (ad 0)), (1, .int (nI xn)), (2, .int (nI lf)), (3, .int (nI g))] → W p l e ({ frames := 4, cells := 0, slots := 0, locals := 96 } : Room) s m ([.ref (ad 0), .int (nI xn)] : List Value).toArray below meth c H locs 0 0 Q (F0 m 48 ls []) := by
            intro fu48
            induction fu48 with
            | zero => intro _ _ _ _ _ hmu; exact absurd hmu (Nat.not_lt_zero _)
            | succ fu48 ih48 =>
              intro g lf H locs ls hmu48 hg hcnt hP hD hS hl
              refine lv_iload_n hx hb dX4_listed_48 rfl (lv_at hl 3 rfl) ?_
              refine lv_if_le (tgt := 104) hx hb dX4_listed_49 (by decide) (fun c49 => ?_) (fun c49 => ?_)
              · have hg0 : g = 0 := by have := zle (show nI g ≤ nI 0 from c49); omega
                refine lv_iconst (v := (-1 : Int32)) hx hb dX4_listed_104 (by decide) ?_
                exact ret _ _ _ _ _ _ (by exact ⟨Or.inr ⟨(fun ⟨c, x2, h0, e, h1⟩ => zLi_no (by rw [hg0] at hcnt; have := zeq e hxn h0; omega) h1), rfl⟩, _, rfl⟩) hP hD hS dX4_listed_105
              · have hg0 : 0 < g := znle (show ¬ nI g ≤ nI 0 from c49)
                refine lv_iload_n hx hb dX4_listed_52 rfl (lv_at hl 1 rfl) ?_
                refine lv_if_lt (tgt := 104) hx hb dX4_listed_53 (by decide) (fun c53 => absurd c53 hx0) (fun c53 => ?_)
                refine lv_iconst (v := (nI 0)) hx hb dX4_listed_56 (by decide) ?_
                refine lv_istore (lv' := [(4, .int (nI 0)), (0, .ref (ad 0)), (1, .int (nI xn)), (2, .int (nI lf)), (3, .int (nI g))]) hx hb dX4_listed_57 hl (by decide) rfl (fun ls hl => ?_)
                have loop59 : ∀ (fu59 : Nat) (d1 lf2 : Nat) (H : Heap) (locs : List Loc) (ls : Array Slot), (n - d1) < fu59 → (d1 ≤ n) → (xn = lf2 + fb_ct (zSg (zhar mF (zdn (zG gv 31) fo kF fF sF)) g d1) n) → va_P D vwCl (mW cI cZ ad ln st gv oF kF fF sF bF mF hk2 kp cm m1 m2) H → va_D A (mW cI cZ ad ln st gv oF kF fF sF bF mF hk2 kp cm m1 m2) → va_S A s.heap H locs → lv_has ls 5 [(0, .ref (ad 0)), (1, .int (nI xn)), (2, .int (nI lf2)), (3, .int (nI g)), (4, .int (nI d1))] → W p l e ({ frames := 4, cells := 0, slots := 0, locals := 96 } : Room) s m ([.ref (ad 0), .int (nI xn)] : List Value).toArray below meth c H locs 0 0 Q (F0 m 59 ls []) := by
                  intro fu59
                  induction fu59 with
                  | zero => intro _ _ _ _ _ hmu; exact absurd hmu (Nat.not_lt_zero _)
                  | succ fu59 ih59 =>
                    intro d1 lf2 H locs ls hmu59 hc hcn2 hP hD hS hl
                    refine lv_iload hx hb dX4_listed_59 (lv_at hl 4 rfl) ?_
                    refine lv_aload_n hx hb dX4_listed_61 rfl (lv_at hl 0 rfl) ?_
                    refine zq_get hx hb hts in_X4_listed_X4 hown hK hP 0 rfl rfl 4 (by decide) (hts _ w_X4_listed__fieldLink_RX4_79_WordsBesideModel_claims_I__a0b76b) rfl dX4_listed_62 ?_
                    refine zq_te (y := (nI n)) en ?_
                    refine lv_icmp_ge (tgt := 98) hx hb dX4_listed_65 (by decide) (fun c65 => ?_) (fun c65 => ?_)
                    · have h65 := zle c65
                      refine lv_iinc (v := (nI (g - 1))) (lv' := [(3, .int (nI (g - 1))), (0, .ref (ad 0)), (1, .int (nI xn)), (2, .int (nI lf2)), (4, .int (nI d1))]) hx hb dX4_listed_98 hl (k := 3) rfl (sb_m1 (by omega)) (by decide) rfl (fun ls hl => ?_)
                      refine lv_goto (tgt := 48) hx hb dX4_listed_101 (by decide) ?_
                      exact ih48 (g - 1) lf2 _ _ ls (by omega) (by omega) (by rw [hcn2, show d1 = n by omega, zSg_e (by omega)]) hP hD hS (lv_sub hl [1, 2, 3, 0] rfl)
                    · have h65 := znle c65
                      have hhl := zhar_le mF (zdn (zG gv 31) fo kF fF sF) d1
                      refine lv_aload_n hx hb dX4_listed_68 rfl (lv_at hl 0 rfl) ?_
                      refine zq_get hx hb hts in_X4_listed_X4 hown hK hP 0 rfl rfl 13 (by decide) (hts _ w_X4_listed__fieldLink_RX4_39_WordsBesideModel_harms_I__36a1ff) rfl dX4_listed_69 ?_
                      refine lv_iload hx hb dX4_listed_72 (lv_at hl 4 rfl) ?_
                      refine zq_ild hx hb hK hP 10 rfl d1 rfl (by omega) (by decide) dX4_listed_74 ?_
                      refine zq_te (y := (nI ((zhar mF (zdn (zG gv 31) fo kF fF sF)) d1))) (hj2 d1 (by omega)) ?_
                      refine lv_iload_n hx hb dX4_listed_75 rfl (lv_at hl 3 rfl) ?_
                      refine lv_icmp_eq (tgt := 82) hx hb dX4_listed_76 (by decide) (fun c76 => ?_) (fun c76 => ?_)
                      · have h76 := zeq c76
                        skip
                        refine lv_iload_n hx hb dX4_listed_82 rfl (lv_at hl 2 rfl) ?_
                        refine lv_if_ne (tgt := 89) hx hb dX4_listed_83 (by decide) (fun c83 => ?_) (fun c83 => ?_)
                        · have hl0 : lf2 ≠ 0 := fun q => c83 (by rw [q]; rfl)
                          refine lv_iinc (v := (nI (lf2 - 1))) (lv' := [(2, .int (nI (lf2 - 1))), (0, .ref (ad 0)), (1, .int (nI xn)), (3, .int (nI g)), (4, .int (nI d1))]) hx hb dX4_listed_89 hl (k := 2) rfl (sb_m1 (by omega)) (by decide) rfl (fun ls hl => ?_)
                          refine lv_iinc (v := (nI (d1 + 1))) (lv' := [(4, .int (nI (d1 + 1))), (2, .int (nI (lf2 - 1))), (0, .ref (ad 0)), (1, .int (nI xn)), (3, .int (nI g))]) hx hb dX4_listed_92 hl (k := 4) rfl ((nI_succ _).symm) (by decide) rfl (fun ls hl => ?_)
                          refine lv_goto (tgt := 59) hx hb dX4_listed_95 (by decide) ?_
                          exact ih59 (d1 + 1) (lf2 - 1) _ _ ls (by omega) (by omega) (by rw [zSg_y h65 h76]; omega) hP hD hS (lv_sub hl [2, 3, 1, 4, 0] rfl)
                        · have hl0 : lf2 = 0 := zeq (c83.trans nI_0.symm)
                          refine lv_iload hx hb dX4_listed_86 (lv_at hl 4 rfl) ?_
                          exact ret _ _ _ _ _ _ (by exact ⟨Or.inl ⟨d1, xn, hxn, rfl, ⟨by omega, by omega, by rw [hl0, Nat.zero_add, ← h76] at hcn2; exact hcn2.symm⟩, rfl⟩, _, rfl⟩) hP hD hS dX4_listed_88
                      · have h76 := zne c76
                        refine lv_goto (tgt := 92) hx hb dX4_listed_79 (by decide) ?_
                        refine lv_iinc (v := (nI (d1 + 1))) (lv' := [(4, .int (nI (d1 + 1))), (0, .ref (ad 0)), (1, .int (nI xn)), (2, .int (nI lf2)), (3, .int (nI g))]) hx hb dX4_listed_92 hl (k := 4) rfl ((nI_succ _).symm) (by decide) rfl (fun ls hl => ?_)
                        refine lv_goto (tgt := 59) hx hb dX4_listed_95 (by decide) ?_
                        exact ih59 (d1 + 1) lf2 _ _ ls (by omega) (by omega) (by rw [zSg_n h76]; exact hcn2) hP hD hS (lv_sub hl [1, 2, 3, 4, 0] rfl)
                exact loop59 (n + 1) 0 lf _ _ ls (by omega) (by omega) hcnt hP hD hS (lv_sub hl [1, 2, 3, 4, 0] rfl)
          exact loop48 (256 + 1) 256 xn _ _ ls (by omega) (by omega) (by rw [fb_ct_zero.mpr (fun q hq => by have := zhar_le mF (zdn (zG gv 31) fo kF fF sF) q; simp [zSg]; omega)]; rfl) hP hD hS (lv_sub hl [2, 3, 1, 0] rfl)
      · have h7 := znle c7
        refine lv_aload_n hx hb dX4_listed_10 rfl (lv_at hl 0 rfl) ?_
        refine zq_get hx hb hts in_X4_listed_X4 hown hK hP 0 rfl rfl 13 (by decide) (hts _ w_X4_listed__fieldLink_RX4_39_WordsBesideModel_harms_I__36a1ff) rfl dX4_listed_11 ?_
        refine lv_iload_n hx hb dX4_listed_14 rfl (lv_at hl 2 rfl) ?_
        refine lv_aload_n hx hb dX4_listed_15 rfl (lv_at hl 0 rfl) ?_
        refine zq_get hx hb hts in_X4_listed_X4 hown hK hP 0 rfl rfl 10 (by decide) (hts _ w_X4_listed__fieldLink_RX4_35_WordsBesideModel_isMarked_Z__f949ba) rfl dX4_listed_16 ?_
        refine lv_iload_n hx hb dX4_listed_19 rfl (lv_at hl 2 rfl) ?_
        refine zq_zld hx hb hK hP 9 rfl j rfl (by omega) (by decide) dX4_listed_20 ?_
        refine lv_if_eq (tgt := 28) hx hb dX4_listed_21 (by decide) (fun c21 => ?_) (fun c21 => ?_)
        · refine lv_aload_n hx hb dX4_listed_28 rfl (lv_at hl 0 rfl) ?_
          refine lv_iload_n hx hb dX4_listed_29 rfl (lv_at hl 2 rfl) ?_
          refine lv_bipush (v := (nI 31)) hx hb dX4_listed_30 (by decide) ?_
          refine zq_cV (rest := [.int (nI j), .ref (ad 10)]) ⟨hx, hb, hml, hown, hts⟩ (c_X4_harm l D cI cZ cW cC ad ln st gv oF kF fF sF bF mF hk2 kp cm m1 m2 fo bo n k hn hk HC j 31 (by omega) (by omega)) (cwV 2 hts gX4_listed_X4_harm rfl rfl rfl (by decide +kernel) ⟨Nat.le_of_ble_eq_true rfl, Nat.le_of_ble_eq_true rfl⟩) hK hP 4 0 rfl rfl rfl hl.1 rfl (Nat.le_of_ble_eq_true rfl) dX4_listed_32 ⟨Nat.le_of_ble_eq_true rfl, Nat.le_of_ble_eq_true rfl⟩ (fun v hv => ?_)
          obtain rfl := hv
          refine W.eq (g2 := F0 m 35 ls [.int (nI (fb_ct (zdn (zG gv 31) fo kF fF sF j) 256)), .int (nI j), .ref (ad 10)]) rfl ?_
          refine zq_ist hx hb hK hP hD hS 10 rfl j rfl (by omega) (by decide) dX4_listed_35 (fun H locs hP hD hS => ?_)
          have hP : va_P D vwCl (mW cI cZ ad ln st gv oF kF fF sF bF mF (upd hk2 j (nI (fb_ct (zdn (zG gv 31) fo kF fF sF j) 256))) kp cm m1 m2) H := hP
          have hD : va_D A (mW cI cZ ad ln st gv oF kF fF sF bF mF (upd hk2 j (nI (fb_ct (zdn (zG gv 31) fo kF fF sF j) 256))) kp cm m1 m2) := hD
          refine lv_iinc (v := (nI (j + 1))) (lv' := [(2, .int (nI (j + 1))), (0, .ref (ad 0)), (1, .int x)]) hx hb dX4_listed_36 hl (k := 2) rfl ((nI_succ _).symm) (by decide) rfl (fun ls hl => ?_)
          refine lv_goto (tgt := 2) hx hb dX4_listed_39 (by decide) ?_
          exact ih2 (j + 1) (upd hk2 j (nI (fb_ct (zdn (zG gv 31) fo kF fF sF j) 256))) _ _ ls (by omega) (by omega) (fun q hq => by
                                        by_cases e : q = j
                                        · subst e; rw [pk_us, zhar, if_pos c21]
                                        · rw [pk_un e]; exact hh q (by omega)) hP hD hS (lv_sub hl [1, 2, 0] rfl)
        · refine lv_iconst (v := (0 : Int32)) hx hb dX4_listed_24 (by decide) ?_
          refine lv_goto (tgt := 35) hx hb dX4_listed_25 (by decide) ?_
          refine zq_ist hx hb hK hP hD hS 10 rfl j rfl (by omega) (by decide) dX4_listed_35 (fun H locs hP hD hS => ?_)
          have hP : va_P D vwCl (mW cI cZ ad ln st gv oF kF fF sF bF mF (upd hk2 j (0 : Int32)) kp cm m1 m2) H := hP
          have hD : va_D A (mW cI cZ ad ln st gv oF kF fF sF bF mF (upd hk2 j (0 : Int32)) kp cm m1 m2) := hD
          refine lv_iinc (v := (nI (j + 1))) (lv' := [(2, .int (nI (j + 1))), (0, .ref (ad 0)), (1, .int x)]) hx hb dX4_listed_36 hl (k := 2) rfl ((nI_succ _).symm) (by decide) rfl (fun ls hl => ?_)
          refine lv_goto (tgt := 2) hx hb dX4_listed_39 (by decide) ?_
          exact ih2 (j + 1) (upd hk2 j (0 : Int32)) _ _ ls (by omega) (by omega) (fun q hq => by
                                        by_cases e : q = j
                                        · subst e; rw [pk_us, zhar, if_neg c21]; rfl
                                        · rw [pk_un e]; exact hh q (by omega)) hP hD hS (lv_sub hl [1, 2, 0] rfl)
  exact loop2 (n + 1) 0 hF _ _ ls (by omega) (by omega) (fun q hq => absurd hq (Nat.not_lt_zero q)) hP hD hS (lv_sub hl [1, 2, 0] rfl)
