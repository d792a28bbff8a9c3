/-! the reference: claims -/
theorem zk7 {x : Int32} (h : zr 8 x) (h0 : ¬ x = 0) (h1 : ¬ x = 1) (h2 : ¬ x = 2) (h3 : ¬ x = 3) (h4 : ¬ x = 4) (h5 : ¬ x = 5) (h6 : ¬ x = 6) : x = 7 := by
  obtain ⟨j, hj, rfl⟩ := h
  have : j = 0 ∨ j = 1 ∨ j = 2 ∨ j = 3 ∨ j = 4 ∨ j = 5 ∨ j = 6 ∨ j = 7 := by omega
  rcases this with rfl | rfl | rfl | rfl | rfl | rfl | rfl | rfl
  · exact absurd rfl h0
  · exact absurd rfl h1
  · exact absurd rfl h2
  · exact absurd rfl h3
  · exact absurd rfl h4
  · exact absurd rfl h5
  · exact absurd rfl h6
  · rfl
theorem zgp_in {G : Nat → Int32} {a r : Nat} (ha : a < 6) : zgp G (nI a) r = G (256 * a + r) := by
  unfold zgp
  rw [nI_clamp (by omega), if_pos ⟨ha, nI_pos (by omega)⟩]
theorem zn16_y {G : Nat → Int32} {f r : Nat} (h : r + 16 < 256) : zn16 G f r = G (256 * f + (r + 16)) := if_pos h
theorem zn16_n {G : Nat → Int32} {f r : Nat} (h : 256 ≤ r + 16) : zn16 G f r = zNO := if_neg (by omega)
theorem zct_b {d : Nat → Bool} {k : Nat} (h : (if d k then (1 : Int32) else 0) = 0) : d k = false := by
  rcases hh : d k with _ | _
  · rfl
  · rw [hh] at h; exact absurd h (by decide)
theorem zct_a {d : Nat → Bool} {k : Nat} (h : ¬ (if d k then (1 : Int32) else 0) = 0) : d k = true := by
  rcases hh : d k with _ | _
  · rw [hh] at h; exact absurd rfl h
  · rfl
theorem zct_bb {b : Bool} (h : (if b then (1 : Int32) else 0) = 0) : b = false := by
  cases b
  · rfl
  · exact absurd h (by decide)
theorem zct_aa {b : Bool} (h : ¬ (if b then (1 : Int32) else 0) = 0) : b = true := by
  cases b
  · exact absurd rfl h
  · rfl
theorem zheld_ct {d : Nat → Bool} (h : nI (fb_ct d 256) = 0) : zheld d = true := by
  unfold zheld
  rw [decide_eq_true_eq]
  exact zeq (h.trans nI_0.symm) (by have := fb_ct_le d 256; omega)
theorem zheld_cn {d : Nat → Bool} (h : ¬ nI (fb_ct d 256) = 0) : zheld d = false := by
  unfold zheld
  rw [decide_eq_false_iff_not]
  intro q
  rw [q] at h
  exact h rfl
theorem zheld_le {d : Nat → Bool} (h : nI (fb_ct d 256) ≤ 0) : zheld d = true := by
  have h1 := fb_ct_le d 256
  have h2 : fb_ct d 256 ≤ 0 := zle (show nI (fb_ct d 256) ≤ nI 0 from h)
  unfold zheld
  rw [decide_eq_true_eq]
  omega
theorem zheld_nle {d : Nat → Bool} (h : ¬ nI (fb_ct d 256) ≤ 0) : zheld d = false := by
  unfold zheld
  rw [decide_eq_false_iff_not]
  intro q
  rw [q] at h
  exact h (by decide)
noncomputable def ztold (n : Nat) (cl wh : Int32) (sd har fn kd p q lk mk : Nat → Int32) : Int32 := by
  classical
  exact if zr n cl then (if wh = 0 then sd cl.toNatClampNeg else if wh = 1 then fn cl.toNatClampNeg else if wh = 2 then kd cl.toNatClampNeg else if wh = 3 then p cl.toNatClampNeg else if wh = 4 then q cl.toNatClampNeg else if wh = 5 then har cl.toNatClampNeg
    else if wh = 6 then (if sd cl.toNatClampNeg = 2 then lk cl.toNatClampNeg + 1 else -1) else if wh = 7 then (if mk cl.toNatClampNeg = 0 then 0 else 1) else zNO) else zNO
theorem ztold_no {n : Nat} {cl wh : Int32} {sd har fn kd p q lk mk : Nat → Int32} (h : ¬ zr n cl) : ztold n cl wh sd har fn kd p q lk mk = zNO := by
  unfold ztold
  rw [if_neg h]
theorem ztold_in {n i : Nat} {wh : Int32} {sd har fn kd p q lk mk : Nat → Int32} (h : i < n) (hn : n ≤ 40) : ztold n (nI i) wh sd har fn kd p q lk mk = (if wh = 0 then sd i else if wh = 1 then fn i else if wh = 2 then kd i else if wh = 3 then p i else if wh = 4 then q i else if wh = 5 then har i else if wh = 6 then (if sd i = 2 then lk i + 1 else -1) else if wh = 7 then (if mk i = 0 then 0 else 1) else zNO) := by
  unfold ztold
  rw [if_pos (zr_nI h), nI_clamp (by omega)]
noncomputable def zdnd (n : Nat) (cl : Int32) (d : Nat → Nat → Bool) : Int32 := by
  classical
  exact if zr n cl then (if fa_first (d cl.toNatClampNeg) 256 < 256 then nI (fa_first (d cl.toNatClampNeg) 256) else -1) else -1
theorem zdnd_no {n : Nat} {cl : Int32} {d : Nat → Nat → Bool} (h : ¬ zr n cl) : zdnd n cl d = -1 := by
  unfold zdnd
  rw [if_neg h]
theorem zdnd_in {n i : Nat} {d : Nat → Nat → Bool} (h : i < n) (hn : n ≤ 40) : zdnd n (nI i) d = if fa_first (d i) 256 < 256 then nI (fa_first (d i) 256) else -1 := by
  unfold zdnd
  rw [if_pos (zr_nI h), nI_clamp (by omega)]
def zhas (fo : Nat → Nat) (f : Nat) (P : Nat → Bool) : Nat → Bool := fun i => decide (fo i = f) && P i

theorem w_X4_denies__constant_RX4_64_2147483648__c0c951 : (.constant RX4 64 (-2147483648) : Cond) ∈ wsX4_denies := by decide +kernel
theorem w_X4_denies__fieldLink_RX4_20_WordsBesideModel_of_I__9fac8e : (.fieldLink RX4 20 "WordsBesideModel" "of" "[I" : Cond) ∈ wsX4_denies := by decide +kernel
theorem w_X4_denies__fieldLink_RX4_23_WordsBesideModel_kind_I__cf4f2c : (.fieldLink RX4 23 "WordsBesideModel" "kind" "[I" : Cond) ∈ wsX4_denies := by decide +kernel
theorem w_X4_denies__fieldLink_RX4_26_WordsBesideModel_first_I__de9671 : (.fieldLink RX4 26 "WordsBesideModel" "first" "[I" : Cond) ∈ wsX4_denies := by decide +kernel
theorem w_X4_denies__fieldLink_RX4_29_WordsBesideModel_second_I__491129 : (.fieldLink RX4 29 "WordsBesideModel" "second" "[I" : Cond) ∈ wsX4_denies := by decide +kernel
theorem in_X4_denies_X4 : ∀ w ∈ wsX40, w ∈ wsX4_denies := fun _ h => List.mem_cons_of_mem _ (List.mem_append_right _ h)
set_option maxHeartbeats 4000000 in
set_option maxRecDepth 100000 in
theorem c_X4_denies (l : Launch) (D : va_G) (cI cZ cW cC : ClassId) (ad : Nat → Nat) (ln st gv oF kF fF sF bF mF hF : Nat → Int32) (kp cm m1 m2 : Int32) (fo bo : Nat → Nat) (n k : Nat) (hn : n ≤ 40) (hk : k ≤ 30) (HC : zHC fo bo oF kF fF bF n k) (i t r : Nat) (hi : i < n) (ht : t < 32) (hr : r < 256) : zq_ro l D cI cZ cW cC yX4_denies wsX4_denies ({ frames := 2, cells := 0, slots := 0, locals := 45 } : Room) [.ref (ad 0), .int (nI i), .int (nI t), .int (nI r)] (mW cI cZ ad ln st gv oF kF fF sF bF mF hF kp cm m1 m2) (fun v => v = some (.int (if zdn (zG gv t) fo kF fF sF i r then 1 else 0))) := by
  refine zq_roZ (own := RX4) (by decide) rfl rfl (Nat.le_of_ble_eq_true rfl) ?_
  intro p e s m below meth c Q ls hF hP hK hl ret
  obtain ⟨hx, hb, hml, hown, hts⟩ := hF
  have hl : lv_has ls 8 [(0, .ref (ad 0)), (1, .int (nI i)), (2, .int (nI t)), (3, .int (nI r))] := hl
  obtain ⟨ho, hf, hk8, h3, h5, h7, hbb, hbk⟩ := HC i hi
  refine lv_aload_n hx hb dX4_denies_0 rfl (lv_at hl 0 rfl) ?_
  refine lv_iload_n hx hb dX4_denies_1 rfl (lv_at hl 2 rfl) ?_
  refine lv_aload_n hx hb dX4_denies_2 rfl (lv_at hl 0 rfl) ?_
  refine zq_get hx hb hts in_X4_denies_X4 hown hK hP 0 rfl rfl 5 (by decide) (hts _ w_X4_denies__fieldLink_RX4_20_WordsBesideModel_of_I__9fac8e) rfl dX4_denies_3 ?_
  refine lv_iload_n hx hb dX4_denies_6 rfl (lv_at hl 1 rfl) ?_
  refine zq_ild hx hb hK hP 4 rfl i rfl (by omega) (by decide) dX4_denies_7 ?_
  refine zq_te (y := (nI (fo i))) ho ?_
  refine lv_iload_n hx hb dX4_denies_8 rfl (lv_at hl 3 rfl) ?_
  refine zq_cV (rest := []) ⟨hx, hb, hml, hown, hts⟩ (c_X4_give l D cI cZ cW cC ad ln st gv oF kF fF sF bF mF hF kp cm m1 m2 t (fo i) r (by omega) (by omega) (by omega)) (cwV 3 hts gX4_denies_X4_give rfl rfl rfl (by decide +kernel) ⟨Nat.le_of_ble_eq_true rfl, Nat.le_of_ble_eq_true rfl⟩) hK hP 4 0 rfl rfl rfl hl.1 rfl (Nat.le_of_ble_eq_true rfl) dX4_denies_9 ⟨Nat.le_of_ble_eq_true rfl, Nat.le_of_ble_eq_true rfl⟩ (fun v hv => ?_)
  obtain rfl := hv
  refine W.eq (g2 := F0 m 12 ls [.int (zG gv t (256 * (fo i) + r))]) rfl ?_
  refine lv_istore (lv' := [(4, .int (zG gv t (256 * (fo i) + r))), (0, .ref (ad 0)), (1, .int (nI i)), (2, .int (nI t)), (3, .int (nI r))]) hx hb dX4_denies_12 hl (by decide) rfl (fun ls hl => ?_)
  refine lv_iload hx hb dX4_denies_14 (lv_at hl 0 rfl) ?_
  refine lv_ldc (v := (-2147483648 : Int32)) hx hb hown (hts _ w_X4_denies__constant_RX4_64_2147483648__c0c951) dX4_denies_16 ?_
  refine lv_icmp_ne (tgt := 25) hx hb dX4_denies_18 (by decide) (fun c18 => ?_) (fun c18 => ?_)
  · refine lv_iconst (v := (0 : Int32)) hx hb dX4_denies_25 (by decide) ?_
    refine lv_istore (lv' := [(5, .int (0 : Int32)), (4, .int (zG gv t (256 * (fo i) + r))), (0, .ref (ad 0)), (1, .int (nI i)), (2, .int (nI t)), (3, .int (nI r))]) hx hb dX4_denies_26 hl (by decide) rfl (fun ls hl => ?_)
    refine lv_aload_n hx hb dX4_denies_28 rfl (lv_at hl 2 rfl) ?_
    refine zq_get hx hb hts in_X4_denies_X4 hown hK hP 0 rfl rfl 7 (by decide) (hts _ w_X4_denies__fieldLink_RX4_26_WordsBesideModel_first_I__de9671) rfl dX4_denies_29 ?_
    refine lv_iload_n hx hb dX4_denies_32 rfl (lv_at hl 3 rfl) ?_
    refine zq_ild hx hb hK hP 6 rfl i rfl (by omega) (by decide) dX4_denies_33 ?_
    refine lv_istore (lv' := [(6, .int (fF i)), (5, .int (0 : Int32)), (4, .int (zG gv t (256 * (fo i) + r))), (0, .ref (ad 0)), (1, .int (nI i)), (2, .int (nI t)), (3, .int (nI r))]) hx hb dX4_denies_34 hl (by decide) rfl (fun ls hl => ?_)
    refine lv_aload_n hx hb dX4_denies_36 rfl (lv_at hl 3 rfl) ?_
    refine zq_get hx hb hts in_X4_denies_X4 hown hK hP 0 rfl rfl 6 (by decide) (hts _ w_X4_denies__fieldLink_RX4_23_WordsBesideModel_kind_I__cf4f2c) rfl dX4_denies_37 ?_
    refine lv_iload_n hx hb dX4_denies_40 rfl (lv_at hl 4 rfl) ?_
    refine zq_ild hx hb hK hP 5 rfl i rfl (by omega) (by decide) dX4_denies_41 ?_
    by_cases k42_0 : (kF i) = (0 : Int32)
    · refine lv_tableIn (tgt := 84) hx hb dX4_denies_42 (by rw [k42_0]; decide) (by rw [k42_0]; decide) (by rw [k42_0]; rfl) (by decide) ?_
      refine lv_iload hx hb dX4_denies_84 (lv_at hl 1 rfl) ?_
      refine lv_if_ne (tgt := 111) hx hb dX4_denies_86 (by decide) (fun c86 => absurd c86 (by decide)) (fun c86 => ?_)
      refine lv_iload hx hb dX4_denies_89 (lv_at hl 2 rfl) ?_
      refine lv_iload hx hb dX4_denies_91 (lv_at hl 0 rfl) ?_
      refine lv_icmp_lt (tgt := 107) hx hb dX4_denies_93 (by decide) (fun c93 => ?_) (fun c93 => ?_)
      · refine lv_iconst (v := (1 : Int32)) hx hb dX4_denies_107 (by decide) ?_
        refine lv_goto (tgt := 112) hx hb dX4_denies_108 (by decide) ?_
        exact ret _ _ _ (Or.inr rfl) (by simp [zdn, zden, c18, k42_0, c93, Int32.not_le.mpr c93]) dX4_denies_112
      · refine lv_iload hx hb dX4_denies_96 (lv_at hl 2 rfl) ?_
        refine lv_aload_n hx hb dX4_denies_98 rfl (lv_at hl 3 rfl) ?_
        refine zq_get hx hb hts in_X4_denies_X4 hown hK hP 0 rfl rfl 8 (by decide) (hts _ w_X4_denies__fieldLink_RX4_29_WordsBesideModel_second_I__491129) rfl dX4_denies_99 ?_
        refine lv_iload_n hx hb dX4_denies_102 rfl (lv_at hl 4 rfl) ?_
        refine zq_ild hx hb hK hP 7 rfl i rfl (by omega) (by decide) dX4_denies_103 ?_
        refine lv_icmp_le (tgt := 111) hx hb dX4_denies_104 (by decide) (fun c104 => ?_) (fun c104 => ?_)
        · refine lv_iconst (v := (0 : Int32)) hx hb dX4_denies_111 (by decide) ?_
          exact ret _ _ _ (Or.inl rfl) (by simp [zdn, zden, c18, k42_0, c93, Int32.not_lt.mp c93, c104, Int32.not_lt.mpr c104]) dX4_denies_112
        · refine lv_iconst (v := (1 : Int32)) hx hb dX4_denies_107 (by decide) ?_
          refine lv_goto (tgt := 112) hx hb dX4_denies_108 (by decide) ?_
          exact ret _ _ _ (Or.inr rfl) (by simp [zdn, zden, c18, k42_0, c93, Int32.not_lt.mp c93, c104, Int32.not_le.mp c104]) dX4_denies_112
    · by_cases k42_1 : (kF i) = (1 : Int32)
      · refine lv_tableIn (tgt := 113) hx hb dX4_denies_42 (by rw [k42_1]; decide) (by rw [k42_1]; decide) (by rw [k42_1]; rfl) (by decide) ?_
        refine lv_iload hx hb dX4_denies_113 (lv_at hl 1 rfl) ?_
        exact ret _ _ _ (Or.inl rfl) (by simp [zdn, zden, c18, k42_1]) dX4_denies_115
      · by_cases k42_2 : (kF i) = (2 : Int32)
        · refine lv_tableIn (tgt := 116) hx hb dX4_denies_42 (by rw [k42_2]; decide) (by rw [k42_2]; decide) (by rw [k42_2]; rfl) (by decide) ?_
          refine lv_iload_n hx hb dX4_denies_116 rfl (lv_at hl 6 rfl) ?_
          refine lv_bipush (v := (nI 16)) hx hb dX4_denies_117 (by decide) ?_
          refine lv_iadd hx hb dX4_denies_119 ?_
          refine zq_te (y := (nI (r + 16))) (nI_add _ _) ?_
          refine lv_sipush (v := (nI 256)) hx hb dX4_denies_120 (by decide) ?_
          refine lv_icmp_ge (tgt := 144) hx hb dX4_denies_123 (by decide) (fun c123 => ?_) (fun c123 => ?_)
          · have h123 := zle c123
            refine lv_ldc (v := (-2147483648 : Int32)) hx hb hown (hts _ w_X4_denies__constant_RX4_64_2147483648__c0c951) dX4_denies_144 ?_
            refine lv_istore (lv' := [(7, .int (-2147483648 : Int32)), (6, .int (fF i)), (5, .int (0 : Int32)), (4, .int (zG gv t (256 * (fo i) + r))), (0, .ref (ad 0)), (1, .int (nI i)), (2, .int (nI t)), (3, .int (nI r))]) hx hb dX4_denies_146 hl (by decide) rfl (fun ls hl => ?_)
            refine lv_iload hx hb dX4_denies_148 (lv_at hl 2 rfl) ?_
            refine lv_if_ne (tgt := 171) hx hb dX4_denies_150 (by decide) (fun c150 => absurd c150 (by decide)) (fun c150 => ?_)
            refine lv_iload hx hb dX4_denies_153 (lv_at hl 0 rfl) ?_
            refine lv_ldc (v := (-2147483648 : Int32)) hx hb hown (hts _ w_X4_denies__constant_RX4_64_2147483648__c0c951) dX4_denies_155 ?_
            refine lv_icmp_eq (tgt := 171) hx hb dX4_denies_157 (by decide) (fun c157 => ?_) (fun c157 => absurd c157 (by decide))
            refine lv_iconst (v := (0 : Int32)) hx hb dX4_denies_171 (by decide) ?_
            exact ret _ _ _ (Or.inl rfl) (by simp [zdn, zden, c18, k42_2, zn16_n h123]) dX4_denies_172
          · have h123 := znle c123
            refine lv_aload_n hx hb dX4_denies_126 rfl (lv_at hl 3 rfl) ?_
            refine lv_iload_n hx hb dX4_denies_127 rfl (lv_at hl 5 rfl) ?_
            refine lv_aload_n hx hb dX4_denies_128 rfl (lv_at hl 3 rfl) ?_
            refine zq_get hx hb hts in_X4_denies_X4 hown hK hP 0 rfl rfl 5 (by decide) (hts _ w_X4_denies__fieldLink_RX4_20_WordsBesideModel_of_I__9fac8e) rfl dX4_denies_129 ?_
            refine lv_iload_n hx hb dX4_denies_132 rfl (lv_at hl 4 rfl) ?_
            refine zq_ild hx hb hK hP 4 rfl i rfl (by omega) (by decide) dX4_denies_133 ?_
            refine zq_te (y := (nI (fo i))) ho ?_
            refine lv_iload_n hx hb dX4_denies_134 rfl (lv_at hl 6 rfl) ?_
            refine lv_bipush (v := (nI 16)) hx hb dX4_denies_135 (by decide) ?_
            refine lv_iadd hx hb dX4_denies_137 ?_
            refine zq_te (y := (nI (r + 16))) (nI_add _ _) ?_
            refine zq_cV (rest := []) ⟨hx, hb, hml, hown, hts⟩ (c_X4_give l D cI cZ cW cC ad ln st gv oF kF fF sF bF mF hF kp cm m1 m2 t (fo i) (r + 16) (by omega) (by omega) (by omega)) (cwV 3 hts gX4_denies_X4_give rfl rfl rfl (by decide +kernel) ⟨Nat.le_of_ble_eq_true rfl, Nat.le_of_ble_eq_true rfl⟩) hK hP 4 0 rfl rfl rfl hl.1 rfl (Nat.le_of_ble_eq_true rfl) dX4_denies_138 ⟨Nat.le_of_ble_eq_true rfl, Nat.le_of_ble_eq_true rfl⟩ (fun v hv => ?_)
            obtain rfl := hv
            refine W.eq (g2 := F0 m 141 ls [.int (zG gv t (256 * (fo i) + (r + 16)))]) rfl ?_
            refine lv_goto (tgt := 146) hx hb dX4_denies_141 (by decide) ?_
            refine lv_istore (lv' := [(7, .int (zG gv t (256 * (fo i) + (r + 16)))), (6, .int (fF i)), (5, .int (0 : Int32)), (4, .int (zG gv t (256 * (fo i) + r))), (0, .ref (ad 0)), (1, .int (nI i)), (2, .int (nI t)), (3, .int (nI r))]) hx hb dX4_denies_146 hl (by decide) rfl (fun ls hl => ?_)
            refine lv_iload hx hb dX4_denies_148 (lv_at hl 2 rfl) ?_
            refine lv_if_ne (tgt := 171) hx hb dX4_denies_150 (by decide) (fun c150 => absurd c150 (by decide)) (fun c150 => ?_)
            refine lv_iload hx hb dX4_denies_153 (lv_at hl 0 rfl) ?_
            refine lv_ldc (v := (-2147483648 : Int32)) hx hb hown (hts _ w_X4_denies__constant_RX4_64_2147483648__c0c951) dX4_denies_155 ?_
            refine lv_icmp_eq (tgt := 171) hx hb dX4_denies_157 (by decide) (fun c157 => ?_) (fun c157 => ?_)
            · refine lv_iconst (v := (0 : Int32)) hx hb dX4_denies_171 (by decide) ?_
              exact ret _ _ _ (Or.inl rfl) (by simp [zdn, zden, c18, k42_2, c157, zn16_y h123]) dX4_denies_172
            · refine lv_iload hx hb dX4_denies_160 (lv_at hl 0 rfl) ?_
              refine lv_iload hx hb dX4_denies_162 (lv_at hl 3 rfl) ?_
              refine lv_icmp_ge (tgt := 171) hx hb dX4_denies_164 (by decide) (fun c164 => ?_) (fun c164 => ?_)
              · refine lv_iconst (v := (0 : Int32)) hx hb dX4_denies_171 (by decide) ?_
                exact ret _ _ _ (Or.inl rfl) (by simp [zdn, zden, c18, k42_2, c157, c164, Int32.not_lt.mpr c164, zn16_y h123]) dX4_denies_172
              · refine lv_iconst (v := (1 : Int32)) hx hb dX4_denies_167 (by decide) ?_
                refine lv_goto (tgt := 172) hx hb dX4_denies_168 (by decide) ?_
                exact ret _ _ _ (Or.inr rfl) (by simp [zdn, zden, c18, k42_2, c157, c164, Int32.not_le.mp c164, zn16_y h123]) dX4_denies_172
        · by_cases k42_3 : (kF i) = (3 : Int32)
          · refine lv_tableIn (tgt := 173) hx hb dX4_denies_42 (by rw [k42_3]; decide) (by rw [k42_3]; decide) (by rw [k42_3]; rfl) (by decide) ?_
            refine lv_iload hx hb dX4_denies_173 (lv_at hl 1 rfl) ?_
            refine lv_if_ne (tgt := 190) hx hb dX4_denies_175 (by decide) (fun c175 => absurd c175 (by decide)) (fun c175 => ?_)
            refine lv_iload hx hb dX4_denies_178 (lv_at hl 2 rfl) ?_
            refine lv_iload hx hb dX4_denies_180 (lv_at hl 0 rfl) ?_
            refine lv_irem hx hb dX4_denies_182 (fun h => absurd (h3 k42_3).1 (by rw [h]; decide)) ?_
            refine lv_if_eq (tgt := 190) hx hb dX4_denies_183 (by decide) (fun c183 => ?_) (fun c183 => ?_)
            · refine lv_iconst (v := (0 : Int32)) hx hb dX4_denies_190 (by decide) ?_
              exact ret _ _ _ (Or.inl rfl) (by simp [zdn, zden, c18, k42_3, c183, (h3 k42_3).1]) dX4_denies_191
            · refine lv_iconst (v := (1 : Int32)) hx hb dX4_denies_186 (by decide) ?_
              refine lv_goto (tgt := 191) hx hb dX4_denies_187 (by decide) ?_
              exact ret _ _ _ (Or.inr rfl) (by simp [zdn, zden, c18, k42_3, c183, (h3 k42_3).1]) dX4_denies_191
          · by_cases k42_4 : (kF i) = (4 : Int32)
            · refine lv_tableIn (tgt := 192) hx hb dX4_denies_42 (by rw [k42_4]; decide) (by rw [k42_4]; decide) (by rw [k42_4]; rfl) (by decide) ?_
              refine lv_iload hx hb dX4_denies_192 (lv_at hl 2 rfl) ?_
              refine lv_aload_n hx hb dX4_denies_194 rfl (lv_at hl 3 rfl) ?_
              refine lv_iload_n hx hb dX4_denies_195 rfl (lv_at hl 5 rfl) ?_
              refine lv_aload_n hx hb dX4_denies_196 rfl (lv_at hl 3 rfl) ?_
              refine zq_get hx hb hts in_X4_denies_X4 hown hK hP 0 rfl rfl 5 (by decide) (hts _ w_X4_denies__fieldLink_RX4_20_WordsBesideModel_of_I__9fac8e) rfl dX4_denies_197 ?_
              refine lv_iload_n hx hb dX4_denies_200 rfl (lv_at hl 4 rfl) ?_
              refine zq_ild hx hb hK hP 4 rfl i rfl (by omega) (by decide) dX4_denies_201 ?_
              refine zq_te (y := (nI (fo i))) ho ?_
              refine lv_iload_n hx hb dX4_denies_202 rfl (lv_at hl 6 rfl) ?_
              refine lv_bipush (v := (nI 16)) hx hb dX4_denies_203 (by decide) ?_
              refine lv_irem hx hb dX4_denies_205 (by decide) ?_
              refine zq_te (y := (nI (r % 16))) (pk_rem (by omega) (by omega) (by omega)) ?_
              refine lv_bipush (v := (nI 16)) hx hb dX4_denies_206 (by decide) ?_
              refine lv_imul hx hb dX4_denies_208 ?_
              refine zq_te (y := (nI (r % 16 * 16))) (pk_mul _ _) ?_
              refine lv_iload_n hx hb dX4_denies_209 rfl (lv_at hl 6 rfl) ?_
              refine lv_bipush (v := (nI 16)) hx hb dX4_denies_210 (by decide) ?_
              refine lv_idiv hx hb dX4_denies_212 (by decide) ?_
              refine zq_te (y := (nI (r / 16))) (pk_div (by omega) (by omega) (by omega)) ?_
              refine lv_iadd hx hb dX4_denies_213 ?_
              refine zq_te (y := (nI (r % 16 * 16 + r / 16))) (nI_add _ _) ?_
              refine zq_cV (rest := [.int (zG gv t (256 * (fo i) + r))]) ⟨hx, hb, hml, hown, hts⟩ (c_X4_give l D cI cZ cW cC ad ln st gv oF kF fF sF bF mF hF kp cm m1 m2 t (fo i) (r % 16 * 16 + r / 16) (by omega) (by omega) (by omega)) (cwV 3 hts gX4_denies_X4_give rfl rfl rfl (by decide +kernel) ⟨Nat.le_of_ble_eq_true rfl, Nat.le_of_ble_eq_true rfl⟩) hK hP 4 0 rfl rfl rfl hl.1 rfl (Nat.le_of_ble_eq_true rfl) dX4_denies_214 ⟨Nat.le_of_ble_eq_true rfl, Nat.le_of_ble_eq_true rfl⟩ (fun v hv => ?_)
              obtain rfl := hv
              refine W.eq (g2 := F0 m 217 ls [.int (zG gv t (256 * (fo i) + (r % 16 * 16 + r / 16))), .int (zG gv t (256 * (fo i) + r))]) rfl ?_
              refine lv_icmp_eq (tgt := 224) hx hb dX4_denies_217 (by decide) (fun c217 => ?_) (fun c217 => ?_)
              · refine lv_iconst (v := (0 : Int32)) hx hb dX4_denies_224 (by decide) ?_
                exact ret _ _ _ (Or.inl rfl) (by simp [zdn, zden, k42_4, c217]) dX4_denies_225
              · refine lv_iconst (v := (1 : Int32)) hx hb dX4_denies_220 (by decide) ?_
                refine lv_goto (tgt := 225) hx hb dX4_denies_221 (by decide) ?_
                exact ret _ _ _ (Or.inr rfl) (by simp [zdn, zden, k42_4, c217]) dX4_denies_225
            · by_cases k42_5 : (kF i) = (5 : Int32)
              · refine lv_tableIn (tgt := 226) hx hb dX4_denies_42 (by rw [k42_5]; decide) (by rw [k42_5]; decide) (by rw [k42_5]; rfl) (by decide) ?_
                refine lv_iload_n hx hb dX4_denies_226 rfl (lv_at hl 6 rfl) ?_
                refine lv_iload hx hb dX4_denies_227 (lv_at hl 0 rfl) ?_
                refine lv_icmp_ne (tgt := 247) hx hb dX4_denies_229 (by decide) (fun c229 => ?_) (fun c229 => ?_)
                · refine lv_iconst (v := (0 : Int32)) hx hb dX4_denies_247 (by decide) ?_
                  exact ret _ _ _ (Or.inl rfl) (by simp [zdn, zden, k42_5, c229]) dX4_denies_248
                · refine lv_iload hx hb dX4_denies_232 (lv_at hl 2 rfl) ?_
                  refine lv_aload_n hx hb dX4_denies_234 rfl (lv_at hl 3 rfl) ?_
                  refine zq_get hx hb hts in_X4_denies_X4 hown hK hP 0 rfl rfl 8 (by decide) (hts _ w_X4_denies__fieldLink_RX4_29_WordsBesideModel_second_I__491129) rfl dX4_denies_235 ?_
                  refine lv_iload_n hx hb dX4_denies_238 rfl (lv_at hl 4 rfl) ?_
                  refine zq_ild hx hb hK hP 7 rfl i rfl (by omega) (by decide) dX4_denies_239 ?_
                  refine lv_icmp_eq (tgt := 247) hx hb dX4_denies_240 (by decide) (fun c240 => ?_) (fun c240 => ?_)
                  · refine lv_iconst (v := (0 : Int32)) hx hb dX4_denies_247 (by decide) ?_
                    exact ret _ _ _ (Or.inl rfl) (by simp [zdn, zden, k42_5, c229, c240]) dX4_denies_248
                  · refine lv_iconst (v := (1 : Int32)) hx hb dX4_denies_243 (by decide) ?_
                    refine lv_goto (tgt := 248) hx hb dX4_denies_244 (by decide) ?_
                    exact ret _ _ _ (Or.inr rfl) (by simp [zdn, zden, k42_5, c229, c240]) dX4_denies_248
              · by_cases k42_6 : (kF i) = (6 : Int32)
                · refine lv_tableIn (tgt := 249) hx hb dX4_denies_42 (by rw [k42_6]; decide) (by rw [k42_6]; decide) (by rw [k42_6]; rfl) (by decide) ?_
                  refine lv_iload hx hb dX4_denies_249 (lv_at hl 1 rfl) ?_
                  refine lv_iload_n hx hb dX4_denies_251 rfl (lv_at hl 6 rfl) ?_
                  refine lv_bipush (v := (nI 16)) hx hb dX4_denies_252 (by decide) ?_
                  refine lv_idiv hx hb dX4_denies_254 (by decide) ?_
                  refine zq_te (y := (nI (r / 16))) (pk_div (by omega) (by omega) (by omega)) ?_
                  refine lv_iload hx hb dX4_denies_255 (lv_at hl 0 rfl) ?_
                  refine lv_icmp_lt (tgt := 264) hx hb dX4_denies_257 (by decide) (fun c257 => ?_) (fun c257 => ?_)
                  · refine lv_iconst (v := (0 : Int32)) hx hb dX4_denies_264 (by decide) ?_
                    refine lv_icmp_eq (tgt := 272) hx hb dX4_denies_265 (by decide) (fun c265 => ?_) (fun c265 => absurd c265 (by decide))
                    refine lv_iconst (v := (0 : Int32)) hx hb dX4_denies_272 (by decide) ?_
                    exact ret _ _ _ (Or.inl rfl) (by simp [zdn, zden, c18, k42_6, c257, Int32.not_le.mpr c257]) dX4_denies_273
                  · refine lv_iconst (v := (1 : Int32)) hx hb dX4_denies_260 (by decide) ?_
                    refine lv_goto (tgt := 265) hx hb dX4_denies_261 (by decide) ?_
                    refine lv_icmp_eq (tgt := 272) hx hb dX4_denies_265 (by decide) (fun c265 => absurd c265 (by decide)) (fun c265 => ?_)
                    refine lv_iconst (v := (1 : Int32)) hx hb dX4_denies_268 (by decide) ?_
                    refine lv_goto (tgt := 273) hx hb dX4_denies_269 (by decide) ?_
                    exact ret _ _ _ (Or.inr rfl) (by simp [zdn, zden, c18, k42_6, c257, Int32.not_lt.mp c257]) dX4_denies_273
                · refine lv_tableOut (tgt := 274) hx hb dX4_denies_42 (by have k42_0T := lv_neT k42_0 (a := 0) rfl; have k42_1T := lv_neT k42_1 (a := 1) rfl; have k42_2T := lv_neT k42_2 (a := 2) rfl; have k42_3T := lv_neT k42_3 (a := 3) rfl; have k42_4T := lv_neT k42_4 (a := 4) rfl; have k42_5T := lv_neT k42_5 (a := 5) rfl; have k42_6T := lv_neT k42_6 (a := 6) rfl; omega) (by decide) ?_
                  have k7 := zk7 hk8 k42_0 k42_1 k42_2 k42_3 k42_4 k42_5 k42_6
                  obtain ⟨pn, hpn, ep⟩ := h7 k7
                  rw [ep] at hl
                  refine lv_iload hx hb dX4_denies_274 (lv_at hl 2 rfl) ?_
                  refine lv_aload_n hx hb dX4_denies_276 rfl (lv_at hl 3 rfl) ?_
                  refine lv_iload_n hx hb dX4_denies_277 rfl (lv_at hl 5 rfl) ?_
                  refine lv_iload hx hb dX4_denies_278 (lv_at hl 0 rfl) ?_
                  refine lv_iload_n hx hb dX4_denies_280 rfl (lv_at hl 6 rfl) ?_
                  refine zq_cV (rest := [.int (zG gv t (256 * (fo i) + r))]) ⟨hx, hb, hml, hown, hts⟩ (c_X4_give l D cI cZ cW cC ad ln st gv oF kF fF sF bF mF hF kp cm m1 m2 t pn r (by omega) (by omega) (by omega)) (cwV 3 hts gX4_denies_X4_give rfl rfl rfl (by decide +kernel) ⟨Nat.le_of_ble_eq_true rfl, Nat.le_of_ble_eq_true rfl⟩) hK hP 4 0 rfl rfl rfl hl.1 rfl (Nat.le_of_ble_eq_true rfl) dX4_denies_281 ⟨Nat.le_of_ble_eq_true rfl, Nat.le_of_ble_eq_true rfl⟩ (fun v hv => ?_)
                  obtain rfl := hv
                  refine W.eq (g2 := F0 m 284 ls [.int (zG gv t (256 * pn + r)), .int (zG gv t (256 * (fo i) + r))]) rfl ?_
                  refine lv_icmp_eq (tgt := 291) hx hb dX4_denies_284 (by decide) (fun c284 => ?_) (fun c284 => ?_)
                  · refine lv_iconst (v := (0 : Int32)) hx hb dX4_denies_291 (by decide) ?_
                    exact ret _ _ _ (Or.inl rfl) (by simp [zdn, zden, k7, ep, zgp_in hpn, c284]) dX4_denies_292
                  · refine lv_iconst (v := (1 : Int32)) hx hb dX4_denies_287 (by decide) ?_
                    refine lv_goto (tgt := 292) hx hb dX4_denies_288 (by decide) ?_
                    exact ret _ _ _ (Or.inr rfl) (by simp [zdn, zden, k7, ep, zgp_in hpn, c284]) dX4_denies_292
  · refine lv_iconst (v := (1 : Int32)) hx hb dX4_denies_21 (by decide) ?_
    refine lv_goto (tgt := 26) hx hb dX4_denies_22 (by decide) ?_
    refine lv_istore (lv' := [(5, .int (1 : Int32)), (4, .int (zG gv t (256 * (fo i) + r))), (0, .ref (ad 0)), (1, .int (nI i)), (2, .int (nI t)), (3, .int (nI r))]) hx hb dX4_denies_26 hl (by decide) rfl (fun ls hl => ?_)
    refine lv_aload_n hx hb dX4_denies_28 rfl (lv_at hl 2 rfl) ?_
    refine zq_get hx hb hts in_X4_denies_X4 hown hK hP 0 rfl rfl 7 (by decide) (hts _ w_X4_denies__fieldLink_RX4_26_WordsBesideModel_first_I__de9671) rfl dX4_denies_29 ?_
    refine lv_iload_n hx hb dX4_denies_32 rfl (lv_at hl 3 rfl) ?_
    refine zq_ild hx hb hK hP 6 rfl i rfl (by omega) (by decide) dX4_denies_33 ?_
    refine lv_istore (lv' := [(6, .int (fF i)), (5, .int (1 : Int32)), (4, .int (zG gv t (256 * (fo i) + r))), (0, .ref (ad 0)), (1, .int (nI i)), (2, .int (nI t)), (3, .int (nI r))]) hx hb dX4_denies_34 hl (by decide) rfl (fun ls hl => ?_)
    refine lv_aload_n hx hb dX4_denies_36 rfl (lv_at hl 3 rfl) ?_
    refine zq_get hx hb hts in_X4_denies_X4 hown hK hP 0 rfl rfl 6 (by decide) (hts _ w_X4_denies__fieldLink_RX4_23_WordsBesideModel_kind_I__cf4f2c) rfl dX4_denies_37 ?_
    refine lv_iload_n hx hb dX4_denies_40 rfl (lv_at hl 4 rfl) ?_
    refine zq_ild hx hb hK hP 5 rfl i rfl (by omega) (by decide) dX4_denies_41 ?_
    by_cases k42_0 : (kF i) = (0 : Int32)
    · refine lv_tableIn (tgt := 84) hx hb dX4_denies_42 (by rw [k42_0]; decide) (by rw [k42_0]; decide) (by rw [k42_0]; rfl) (by decide) ?_
      refine lv_iload hx hb dX4_denies_84 (lv_at hl 1 rfl) ?_
      refine lv_if_ne (tgt := 111) hx hb dX4_denies_86 (by decide) (fun c86 => ?_) (fun c86 => absurd c86 (by decide))
      refine lv_iconst (v := (0 : Int32)) hx hb dX4_denies_111 (by decide) ?_
      exact ret _ _ _ (Or.inl rfl) (by simp [zdn, zden, c18, k42_0]) dX4_denies_112
    · by_cases k42_1 : (kF i) = (1 : Int32)
      · refine lv_tableIn (tgt := 113) hx hb dX4_denies_42 (by rw [k42_1]; decide) (by rw [k42_1]; decide) (by rw [k42_1]; rfl) (by decide) ?_
        refine lv_iload hx hb dX4_denies_113 (lv_at hl 1 rfl) ?_
        exact ret _ _ _ (Or.inr rfl) (by simp [zdn, zden, c18, k42_1]) dX4_denies_115
      · by_cases k42_2 : (kF i) = (2 : Int32)
        · refine lv_tableIn (tgt := 116) hx hb dX4_denies_42 (by rw [k42_2]; decide) (by rw [k42_2]; decide) (by rw [k42_2]; rfl) (by decide) ?_
          refine lv_iload_n hx hb dX4_denies_116 rfl (lv_at hl 6 rfl) ?_
          refine lv_bipush (v := (nI 16)) hx hb dX4_denies_117 (by decide) ?_
          refine lv_iadd hx hb dX4_denies_119 ?_
          refine zq_te (y := (nI (r + 16))) (nI_add _ _) ?_
          refine lv_sipush (v := (nI 256)) hx hb dX4_denies_120 (by decide) ?_
          refine lv_icmp_ge (tgt := 144) hx hb dX4_denies_123 (by decide) (fun c123 => ?_) (fun c123 => ?_)
          · have h123 := zle c123
            refine lv_ldc (v := (-2147483648 : Int32)) hx hb hown (hts _ w_X4_denies__constant_RX4_64_2147483648__c0c951) dX4_denies_144 ?_
            refine lv_istore (lv' := [(7, .int (-2147483648 : Int32)), (6, .int (fF i)), (5, .int (1 : Int32)), (4, .int (zG gv t (256 * (fo i) + r))), (0, .ref (ad 0)), (1, .int (nI i)), (2, .int (nI t)), (3, .int (nI r))]) hx hb dX4_denies_146 hl (by decide) rfl (fun ls hl => ?_)
            refine lv_iload hx hb dX4_denies_148 (lv_at hl 2 rfl) ?_
            refine lv_if_ne (tgt := 171) hx hb dX4_denies_150 (by decide) (fun c150 => ?_) (fun c150 => absurd c150 (by decide))
            refine lv_iconst (v := (0 : Int32)) hx hb dX4_denies_171 (by decide) ?_
            exact ret _ _ _ (Or.inl rfl) (by simp [zdn, zden, c18, k42_2, zn16_n h123]) dX4_denies_172
          · have h123 := znle c123
            refine lv_aload_n hx hb dX4_denies_126 rfl (lv_at hl 3 rfl) ?_
            refine lv_iload_n hx hb dX4_denies_127 rfl (lv_at hl 5 rfl) ?_
            refine lv_aload_n hx hb dX4_denies_128 rfl (lv_at hl 3 rfl) ?_
            refine zq_get hx hb hts in_X4_denies_X4 hown hK hP 0 rfl rfl 5 (by decide) (hts _ w_X4_denies__fieldLink_RX4_20_WordsBesideModel_of_I__9fac8e) rfl dX4_denies_129 ?_
            refine lv_iload_n hx hb dX4_denies_132 rfl (lv_at hl 4 rfl) ?_
            refine zq_ild hx hb hK hP 4 rfl i rfl (by omega) (by decide) dX4_denies_133 ?_
            refine zq_te (y := (nI (fo i))) ho ?_
            refine lv_iload_n hx hb dX4_denies_134 rfl (lv_at hl 6 rfl) ?_
            refine lv_bipush (v := (nI 16)) hx hb dX4_denies_135 (by decide) ?_
            refine lv_iadd hx hb dX4_denies_137 ?_
            refine zq_te (y := (nI (r + 16))) (nI_add _ _) ?_
            refine zq_cV (rest := []) ⟨hx, hb, hml, hown, hts⟩ (c_X4_give l D cI cZ cW cC ad ln st gv oF kF fF sF bF mF hF kp cm m1 m2 t (fo i) (r + 16) (by omega) (by omega) (by omega)) (cwV 3 hts gX4_denies_X4_give rfl rfl rfl (by decide +kernel) ⟨Nat.le_of_ble_eq_true rfl, Nat.le_of_ble_eq_true rfl⟩) hK hP 4 0 rfl rfl rfl hl.1 rfl (Nat.le_of_ble_eq_true rfl) dX4_denies_138 ⟨Nat.le_of_ble_eq_true rfl, Nat.le_of_ble_eq_true rfl⟩ (fun v hv => ?_)
            obtain rfl := hv
            refine W.eq (g2 := F0 m 141 ls [.int (zG gv t (256 * (fo i) + (r + 16)))]) rfl ?_
            refine lv_goto (tgt := 146) hx hb dX4_denies_141 (by decide) ?_
            refine lv_istore (lv' := [(7, .int (zG gv t (256 * (fo i) + (r + 16)))), (6, .int (fF i)), (5, .int (1 : Int32)), (4, .int (zG gv t (256 * (fo i) + r))), (0, .ref (ad 0)), (1, .int (nI i)), (2, .int (nI t)), (3, .int (nI r))]) hx hb dX4_denies_146 hl (by decide) rfl (fun ls hl => ?_)
            refine lv_iload hx hb dX4_denies_148 (lv_at hl 2 rfl) ?_
            refine lv_if_ne (tgt := 171) hx hb dX4_denies_150 (by decide) (fun c150 => ?_) (fun c150 => absurd c150 (by decide))
            refine lv_iconst (v := (0 : Int32)) hx hb dX4_denies_171 (by decide) ?_
            exact ret _ _ _ (Or.inl rfl) (by simp [zdn, zden, c18, k42_2, zn16_y h123]) dX4_denies_172
        · by_cases k42_3 : (kF i) = (3 : Int32)
          · refine lv_tableIn (tgt := 173) hx hb dX4_denies_42 (by rw [k42_3]; decide) (by rw [k42_3]; decide) (by rw [k42_3]; rfl) (by decide) ?_
            refine lv_iload hx hb dX4_denies_173 (lv_at hl 1 rfl) ?_
            refine lv_if_ne (tgt := 190) hx hb dX4_denies_175 (by decide) (fun c175 => ?_) (fun c175 => absurd c175 (by decide))
            refine lv_iconst (v := (0 : Int32)) hx hb dX4_denies_190 (by decide) ?_
            exact ret _ _ _ (Or.inl rfl) (by simp [zdn, zden, c18, k42_3, (h3 k42_3).1]) dX4_denies_191
          · by_cases k42_4 : (kF i) = (4 : Int32)
            · refine lv_tableIn (tgt := 192) hx hb dX4_denies_42 (by rw [k42_4]; decide) (by rw [k42_4]; decide) (by rw [k42_4]; rfl) (by decide) ?_
              refine lv_iload hx hb dX4_denies_192 (lv_at hl 2 rfl) ?_
              refine lv_aload_n hx hb dX4_denies_194 rfl (lv_at hl 3 rfl) ?_
              refine lv_iload_n hx hb dX4_denies_195 rfl (lv_at hl 5 rfl) ?_
              refine lv_aload_n hx hb dX4_denies_196 rfl (lv_at hl 3 rfl) ?_
              refine zq_get hx hb hts in_X4_denies_X4 hown hK hP 0 rfl rfl 5 (by decide) (hts _ w_X4_denies__fieldLink_RX4_20_WordsBesideModel_of_I__9fac8e) rfl dX4_denies_197 ?_
              refine lv_iload_n hx hb dX4_denies_200 rfl (lv_at hl 4 rfl) ?_
              refine zq_ild hx hb hK hP 4 rfl i rfl (by omega) (by decide) dX4_denies_201 ?_
              refine zq_te (y := (nI (fo i))) ho ?_
              refine lv_iload_n hx hb dX4_denies_202 rfl (lv_at hl 6 rfl) ?_
              refine lv_bipush (v := (nI 16)) hx hb dX4_denies_203 (by decide) ?_
              refine lv_irem hx hb dX4_denies_205 (by decide) ?_
              refine zq_te (y := (nI (r % 16))) (pk_rem (by omega) (by omega) (by omega)) ?_
              refine lv_bipush (v := (nI 16)) hx hb dX4_denies_206 (by decide) ?_
              refine lv_imul hx hb dX4_denies_208 ?_
              refine zq_te (y := (nI (r % 16 * 16))) (pk_mul _ _) ?_
              refine lv_iload_n hx hb dX4_denies_209 rfl (lv_at hl 6 rfl) ?_
              refine lv_bipush (v := (nI 16)) hx hb dX4_denies_210 (by decide) ?_
              refine lv_idiv hx hb dX4_denies_212 (by decide) ?_
              refine zq_te (y := (nI (r / 16))) (pk_div (by omega) (by omega) (by omega)) ?_
              refine lv_iadd hx hb dX4_denies_213 ?_
              refine zq_te (y := (nI (r % 16 * 16 + r / 16))) (nI_add _ _) ?_
              refine zq_cV (rest := [.int (zG gv t (256 * (fo i) + r))]) ⟨hx, hb, hml, hown, hts⟩ (c_X4_give l D cI cZ cW cC ad ln st gv oF kF fF sF bF mF hF kp cm m1 m2 t (fo i) (r % 16 * 16 + r / 16) (by omega) (by omega) (by omega)) (cwV 3 hts gX4_denies_X4_give rfl rfl rfl (by decide +kernel) ⟨Nat.le_of_ble_eq_true rfl, Nat.le_of_ble_eq_true rfl⟩) hK hP 4 0 rfl rfl rfl hl.1 rfl (Nat.le_of_ble_eq_true rfl) dX4_denies_214 ⟨Nat.le_of_ble_eq_true rfl, Nat.le_of_ble_eq_true rfl⟩ (fun v hv => ?_)
              obtain rfl := hv
              refine W.eq (g2 := F0 m 217 ls [.int (zG gv t (256 * (fo i) + (r % 16 * 16 + r / 16))), .int (zG gv t (256 * (fo i) + r))]) rfl ?_
              refine lv_icmp_eq (tgt := 224) hx hb dX4_denies_217 (by decide) (fun c217 => ?_) (fun c217 => ?_)
              · refine lv_iconst (v := (0 : Int32)) hx hb dX4_denies_224 (by decide) ?_
                exact ret _ _ _ (Or.inl rfl) (by simp [zdn, zden, k42_4, c217]) dX4_denies_225
              · refine lv_iconst (v := (1 : Int32)) hx hb dX4_denies_220 (by decide) ?_
                refine lv_goto (tgt := 225) hx hb dX4_denies_221 (by decide) ?_
                exact ret _ _ _ (Or.inr rfl) (by simp [zdn, zden, k42_4, c217]) dX4_denies_225
            · by_cases k42_5 : (kF i) = (5 : Int32)
              · refine lv_tableIn (tgt := 226) hx hb dX4_denies_42 (by rw [k42_5]; decide) (by rw [k42_5]; decide) (by rw [k42_5]; rfl) (by decide) ?_
                refine lv_iload_n hx hb dX4_denies_226 rfl (lv_at hl 6 rfl) ?_
                refine lv_iload hx hb dX4_denies_227 (lv_at hl 0 rfl) ?_
                refine lv_icmp_ne (tgt := 247) hx hb dX4_denies_229 (by decide) (fun c229 => ?_) (fun c229 => ?_)
                · refine lv_iconst (v := (0 : Int32)) hx hb dX4_denies_247 (by decide) ?_
                  exact ret _ _ _ (Or.inl rfl) (by simp [zdn, zden, k42_5, c229]) dX4_denies_248
                · refine lv_iload hx hb dX4_denies_232 (lv_at hl 2 rfl) ?_
                  refine lv_aload_n hx hb dX4_denies_234 rfl (lv_at hl 3 rfl) ?_
                  refine zq_get hx hb hts in_X4_denies_X4 hown hK hP 0 rfl rfl 8 (by decide) (hts _ w_X4_denies__fieldLink_RX4_29_WordsBesideModel_second_I__491129) rfl dX4_denies_235 ?_
                  refine lv_iload_n hx hb dX4_denies_238 rfl (lv_at hl 4 rfl) ?_
                  refine zq_ild hx hb hK hP 7 rfl i rfl (by omega) (by decide) dX4_denies_239 ?_
                  refine lv_icmp_eq (tgt := 247) hx hb dX4_denies_240 (by decide) (fun c240 => ?_) (fun c240 => ?_)
                  · refine lv_iconst (v := (0 : Int32)) hx hb dX4_denies_247 (by decide) ?_
                    exact ret _ _ _ (Or.inl rfl) (by simp [zdn, zden, k42_5, c229, c240]) dX4_denies_248
                  · refine lv_iconst (v := (1 : Int32)) hx hb dX4_denies_243 (by decide) ?_
                    refine lv_goto (tgt := 248) hx hb dX4_denies_244 (by decide) ?_
                    exact ret _ _ _ (Or.inr rfl) (by simp [zdn, zden, k42_5, c229, c240]) dX4_denies_248
              · by_cases k42_6 : (kF i) = (6 : Int32)
                · refine lv_tableIn (tgt := 249) hx hb dX4_denies_42 (by rw [k42_6]; decide) (by rw [k42_6]; decide) (by rw [k42_6]; rfl) (by decide) ?_
                  refine lv_iload hx hb dX4_denies_249 (lv_at hl 1 rfl) ?_
                  refine lv_iload_n hx hb dX4_denies_251 rfl (lv_at hl 6 rfl) ?_
                  refine lv_bipush (v := (nI 16)) hx hb dX4_denies_252 (by decide) ?_
                  refine lv_idiv hx hb dX4_denies_254 (by decide) ?_
                  refine zq_te (y := (nI (r / 16))) (pk_div (by omega) (by omega) (by omega)) ?_
                  refine lv_iload hx hb dX4_denies_255 (lv_at hl 0 rfl) ?_
                  refine lv_icmp_lt (tgt := 264) hx hb dX4_denies_257 (by decide) (fun c257 => ?_) (fun c257 => ?_)
                  · refine lv_iconst (v := (0 : Int32)) hx hb dX4_denies_264 (by decide) ?_
                    refine lv_icmp_eq (tgt := 272) hx hb dX4_denies_265 (by decide) (fun c265 => absurd c265 (by decide)) (fun c265 => ?_)
                    refine lv_iconst (v := (1 : Int32)) hx hb dX4_denies_268 (by decide) ?_
                    refine lv_goto (tgt := 273) hx hb dX4_denies_269 (by decide) ?_
                    exact ret _ _ _ (Or.inr rfl) (by simp [zdn, zden, c18, k42_6, c257, Int32.not_le.mpr c257]) dX4_denies_273
                  · refine lv_iconst (v := (1 : Int32)) hx hb dX4_denies_260 (by decide) ?_
                    refine lv_goto (tgt := 265) hx hb dX4_denies_261 (by decide) ?_
                    refine lv_icmp_eq (tgt := 272) hx hb dX4_denies_265 (by decide) (fun c265 => ?_) (fun c265 => absurd c265 (by decide))
                    refine lv_iconst (v := (0 : Int32)) hx hb dX4_denies_272 (by decide) ?_
                    exact ret _ _ _ (Or.inl rfl) (by simp [zdn, zden, c18, k42_6, c257, Int32.not_lt.mp c257]) dX4_denies_273
                · refine lv_tableOut (tgt := 274) hx hb dX4_denies_42 (by have k42_0T := lv_neT k42_0 (a := 0) rfl; have k42_1T := lv_neT k42_1 (a := 1) rfl; have k42_2T := lv_neT k42_2 (a := 2) rfl; have k42_3T := lv_neT k42_3 (a := 3) rfl; have k42_4T := lv_neT k42_4 (a := 4) rfl; have k42_5T := lv_neT k42_5 (a := 5) rfl; have k42_6T := lv_neT k42_6 (a := 6) rfl; omega) (by decide) ?_
                  have k7 := zk7 hk8 k42_0 k42_1 k42_2 k42_3 k42_4 k42_5 k42_6
                  obtain ⟨pn, hpn, ep⟩ := h7 k7
                  rw [ep] at hl
                  refine lv_iload hx hb dX4_denies_274 (lv_at hl 2 rfl) ?_
                  refine lv_aload_n hx hb dX4_denies_276 rfl (lv_at hl 3 rfl) ?_
                  refine lv_iload_n hx hb dX4_denies_277 rfl (lv_at hl 5 rfl) ?_
                  refine lv_iload hx hb dX4_denies_278 (lv_at hl 0 rfl) ?_
                  refine lv_iload_n hx hb dX4_denies_280 rfl (lv_at hl 6 rfl) ?_
                  refine zq_cV (rest := [.int (zG gv t (256 * (fo i) + r))]) ⟨hx, hb, hml, hown, hts⟩ (c_X4_give l D cI cZ cW cC ad ln st gv oF kF fF sF bF mF hF kp cm m1 m2 t pn r (by omega) (by omega) (by omega)) (cwV 3 hts gX4_denies_X4_give rfl rfl rfl (by decide +kernel) ⟨Nat.le_of_ble_eq_true rfl, Nat.le_of_ble_eq_true rfl⟩) hK hP 4 0 rfl rfl rfl hl.1 rfl (Nat.le_of_ble_eq_true rfl) dX4_denies_281 ⟨Nat.le_of_ble_eq_true rfl, Nat.le_of_ble_eq_true rfl⟩ (fun v hv => ?_)
                  obtain rfl := hv
                  refine W.eq (g2 := F0 m 284 ls [.int (zG gv t (256 * pn + r)), .int (zG gv t (256 * (fo i) + r))]) rfl ?_
                  refine lv_icmp_eq (tgt := 291) hx hb dX4_denies_284 (by decide) (fun c284 => ?_) (fun c284 => ?_)
                  · refine lv_iconst (v := (0 : Int32)) hx hb dX4_denies_291 (by decide) ?_
                    exact ret _ _ _ (Or.inl rfl) (by simp [zdn, zden, k7, ep, zgp_in hpn, c284]) dX4_denies_292
                  · refine lv_iconst (v := (1 : Int32)) hx hb dX4_denies_287 (by decide) ?_
                    refine lv_goto (tgt := 292) hx hb dX4_denies_288 (by decide) ?_
                    exact ret _ _ _ (Or.inr rfl) (by simp [zdn, zden, k7, ep, zgp_in hpn, c284]) dX4_denies_292
set_option maxHeartbeats 4000000 in
set_option maxRecDepth 100000 in
theorem c_X4_harm (l : Launch) (D : va_G) (cI cZ cW cC : ClassId) (ad : Nat → Nat) (ln st gv oF kF fF sF bF mF hF : Nat → Int32) (kp cm m1 m2 : Int32) (fo bo : Nat → Nat) (n k : Nat) (hn : n ≤ 40) (hk : k ≤ 30) (HC : zHC fo bo oF kF fF bF n k) (i t : Nat) (hi : i < n) (ht : t < 32) : zq_ro l D cI cZ cW cC yX4_harm wsX4_harm ({ frames := 3, cells := 0, slots := 0, locals := 72 } : Room) [.ref (ad 0), .int (nI i), .int (nI t)] (mW cI cZ ad ln st gv oF kF fF sF bF mF hF kp cm m1 m2) (fun v => v = some (.int (nI (fb_ct (zdn (zG gv t) fo kF fF sF i) 256)))) := by
  refine zq_roI (own := RX4) (by decide) rfl rfl (Nat.le_of_ble_eq_true rfl) ?_
  intro p e s m below meth c Q ls hF hP hK hl ret
  obtain ⟨hx, hb, hml, hown, hts⟩ := hF
  have hl : lv_has ls 5 [(0, .ref (ad 0)), (1, .int (nI i)), (2, .int (nI t))] := hl
  refine lv_iconst (v := (0 : Int32)) hx hb dX4_harm_0 (by decide) ?_
  refine lv_istore_n (lv' := [(3, .int (nI 0)), (0, .ref (ad 0)), (1, .int (nI i)), (2, .int (nI t))]) hx hb dX4_harm_1 rfl hl (by decide) rfl (fun ls hl => ?_)
  refine lv_iconst (v := (0 : Int32)) hx hb dX4_harm_2 (by decide) ?_
  refine lv_istore (lv' := [(4, .int (nI 0)), (3, .int (nI 0)), (0, .ref (ad 0)), (1, .int (nI i)), (2, .int (nI t))]) hx hb dX4_harm_3 hl (by decide) rfl (fun ls hl => ?_)
  have loop5 : ∀ (fu5 : Nat) (j a : Nat) (ls : Array Slot), (256 - j) < fu5 → (j ≤ 256) → (a = fb_ct (zdn (zG gv t) fo kF fF sF i) j) → lv_has ls 5 [(0, .ref (ad 0)), (1, .int (nI i)), (2, .int (nI t)), (3, .int (nI a)), (4, .int (nI j))] → W p l e ({ frames := 3, cells := 0, slots := 0, locals := 72 } : Room) s m ([.ref (ad 0), .int (nI i), .int (nI t)] : List Value).toArray below meth c s.heap [] 0 0 Q (F0 m 5 ls []) := by
    intro fu5
    induction fu5 with
    | zero => intro _ _ _ hmu; exact absurd hmu (Nat.not_lt_zero _)
    | succ fu5 ih5 =>
      intro j a ls hmu5 hj ea hl
      refine lv_iload hx hb dX4_harm_5 (lv_at hl 4 rfl) ?_
      refine lv_sipush (v := (nI 256)) hx hb dX4_harm_7 (by decide) ?_
      refine lv_icmp_ge (tgt := 38) hx hb dX4_harm_10 (by decide) (fun c10 => ?_) (fun c10 => ?_)
      · have h10 := zle c10
        refine lv_iload_n hx hb dX4_harm_38 rfl (lv_at hl 3 rfl) ?_
        exact ret _ _ _ (by rw [ea, show j = 256 by omega]) dX4_harm_39
      · have h10 := znle c10
        refine lv_iload_n hx hb dX4_harm_13 rfl (lv_at hl 3 rfl) ?_
        refine lv_aload_n hx hb dX4_harm_14 rfl (lv_at hl 0 rfl) ?_
        refine lv_iload_n hx hb dX4_harm_15 rfl (lv_at hl 1 rfl) ?_
        refine lv_iload_n hx hb dX4_harm_16 rfl (lv_at hl 2 rfl) ?_
        refine lv_iload hx hb dX4_harm_17 (lv_at hl 4 rfl) ?_
        refine zq_cV (rest := [.int (nI a)]) ⟨hx, hb, hml, hown, hts⟩ (c_X4_denies l D cI cZ cW cC ad ln st gv oF kF fF sF bF mF hF kp cm m1 m2 fo bo n k hn hk HC i t j (by omega) (by omega) (by omega)) (cwV 3 hts gX4_harm_X4_denies rfl rfl rfl (by decide +kernel) ⟨Nat.le_of_ble_eq_true rfl, Nat.le_of_ble_eq_true rfl⟩) hK hP 4 0 rfl rfl rfl hl.1 rfl (Nat.le_of_ble_eq_true rfl) dX4_harm_19 ⟨Nat.le_of_ble_eq_true rfl, Nat.le_of_ble_eq_true rfl⟩ (fun v hv => ?_)
        obtain rfl := hv
        refine W.eq (g2 := F0 m 22 ls [.int (if zdn (zG gv t) fo kF fF sF i j then (1 : Int32) else 0), .int (nI a)]) rfl ?_
        refine lv_if_eq (tgt := 29) hx hb dX4_harm_22 (by decide) (fun c22 => ?_) (fun c22 => ?_)
        · refine lv_iconst (v := (0 : Int32)) hx hb dX4_harm_29 (by decide) ?_
          refine lv_iadd hx hb dX4_harm_30 ?_
          refine zq_te (y := (nI a)) (Int32.add_zero _) ?_
          refine lv_istore_n (lv' := [(3, .int (nI a)), (0, .ref (ad 0)), (1, .int (nI i)), (2, .int (nI t)), (4, .int (nI j))]) hx hb dX4_harm_31 rfl hl (by decide) rfl (fun ls hl => ?_)
          refine lv_iinc (v := (nI (j + 1))) (lv' := [(4, .int (nI (j + 1))), (3, .int (nI a)), (0, .ref (ad 0)), (1, .int (nI i)), (2, .int (nI t))]) hx hb dX4_harm_32 hl (k := 4) rfl ((nI_succ _).symm) (by decide) rfl (fun ls hl => ?_)
          refine lv_goto (tgt := 5) hx hb dX4_harm_35 (by decide) ?_
          exact ih5 (j + 1) a ls (by omega) (by omega) (by rw [fb_ct_succ, ← ea, zct_b c22]; rfl) (lv_sub hl [2, 3, 4, 1, 0] rfl)
        · refine lv_iconst (v := (1 : Int32)) hx hb dX4_harm_25 (by decide) ?_
          refine lv_goto (tgt := 30) hx hb dX4_harm_26 (by decide) ?_
          refine lv_iadd hx hb dX4_harm_30 ?_
          refine zq_te (y := (nI (a + 1))) (nI_1 _) ?_
          refine lv_istore_n (lv' := [(3, .int (nI (a + 1))), (0, .ref (ad 0)), (1, .int (nI i)), (2, .int (nI t)), (4, .int (nI j))]) hx hb dX4_harm_31 rfl hl (by decide) rfl (fun ls hl => ?_)
          refine lv_iinc (v := (nI (j + 1))) (lv' := [(4, .int (nI (j + 1))), (3, .int (nI (a + 1))), (0, .ref (ad 0)), (1, .int (nI i)), (2, .int (nI t))]) hx hb dX4_harm_32 hl (k := 4) rfl ((nI_succ _).symm) (by decide) rfl (fun ls hl => ?_)
          refine lv_goto (tgt := 5) hx hb dX4_harm_35 (by decide) ?_
          exact ih5 (j + 1) (a + 1) ls (by omega) (by omega) (by rw [fb_ct_succ, ← ea, zct_a c22]; rfl) (lv_sub hl [2, 3, 4, 1, 0] rfl)
  exact loop5 (256 + 1) 0 0 ls (by omega) (by omega) rfl (lv_sub hl [2, 3, 4, 1, 0] rfl)
theorem w_X4_lastHeld__fieldLink_RX4_32_WordsBesideModel_base_I__b13283 : (.fieldLink RX4 32 "WordsBesideModel" "base" "[I" : Cond) ∈ wsX4_lastHeld := by decide +kernel
theorem w_X4_lastHeld__fieldLink_RX4_75_WordsBesideModel_kept_I__b97d2f : (.fieldLink RX4 75 "WordsBesideModel" "kept" "I" : Cond) ∈ wsX4_lastHeld := by decide +kernel
theorem in_X4_lastHeld_X4 : ∀ w ∈ wsX40, w ∈ wsX4_lastHeld := fun _ h => List.mem_cons_of_mem _ (List.mem_append_right _ h)
set_option maxHeartbeats 4000000 in
set_option maxRecDepth 100000 in
theorem c_X4_lastHeld (l : Launch) (D : va_G) (cI cZ cW cC : ClassId) (ad : Nat → Nat) (ln st gv oF kF fF sF bF mF hF : Nat → Int32) (kp cm m1 m2 : Int32) (fo bo : Nat → Nat) (n k : Nat) (hn : n ≤ 40) (hk : k ≤ 30) (HC : zHC fo bo oF kF fF bF n k) (ek : kp = nI k) (i : Nat) (hi : i < n) : zq_ro l D cI cZ cW cC yX4_lastHeld wsX4_lastHeld ({ frames := 4, cells := 0, slots := 0, locals := 96 } : Room) [.ref (ad 0), .int (nI i)] (mW cI cZ ad ln st gv oF kF fF sF bF mF hF kp cm m1 m2) (fun v => v = some (.int (zlk (fun t => zheld (zdn (zG gv t) fo kF fF sF i)) (bo i) (k + 1)))) := by
  refine zq_roI (own := RX4) (by decide) rfl rfl (Nat.le_of_ble_eq_true rfl) ?_
  intro p e s m below meth c Q ls hF hP hK hl ret
  obtain ⟨hx, hb, hml, hown, hts⟩ := hF
  have hl : lv_has ls 3 [(0, .ref (ad 0)), (1, .int (nI i))] := hl
  obtain ⟨ho, hf, hk8, h3, h5, h7, hbb, hbk⟩ := HC i hi
  subst ek
  refine lv_aload_n hx hb dX4_lastHeld_0 rfl (lv_at hl 0 rfl) ?_
  refine zq_get hx hb hts in_X4_lastHeld_X4 hown hK hP 0 rfl rfl 2 (by decide) (hts _ w_X4_lastHeld__fieldLink_RX4_75_WordsBesideModel_kept_I__b97d2f) rfl dX4_lastHeld_1 ?_
  refine lv_istore_n (lv' := [(2, .int (nI k)), (0, .ref (ad 0)), (1, .int (nI i))]) hx hb dX4_lastHeld_4 rfl hl (by decide) rfl (fun ls hl => ?_)
  have loop5 : ∀ (fu5 : Nat) (u : Nat) (x2 : Int32) (ls : Array Slot), (u) < fu5 → (u ≤ k + 1) → (x2 = nI u - 1) → (zlk (fun t => zheld (zdn (zG gv t) fo kF fF sF i)) (bo i) (k + 1) = zlk (fun t => zheld (zdn (zG gv t) fo kF fF sF i)) (bo i) u) → lv_has ls 3 [(0, .ref (ad 0)), (1, .int (nI i)), (2, .int x2)] → W p l e ({ frames := 4, cells := 0, slots := 0, locals := 96 } : Room) s m ([.ref (ad 0), .int (nI i)] : List Value).toArray below meth c s.heap [] 0 0 Q (F0 m 5 ls []) := by
    intro fu5
    induction fu5 with
    | zero => intro _ _ _ hmu; exact absurd hmu (Nat.not_lt_zero _)
    | succ fu5 ih5 =>
      intro u x2 ls hmu5 hu ex2 hz hl
      refine lv_iload_n hx hb dX4_lastHeld_5 rfl (lv_at hl 2 rfl) ?_
      refine lv_aload_n hx hb dX4_lastHeld_6 rfl (lv_at hl 0 rfl) ?_
      refine zq_get hx hb hts in_X4_lastHeld_X4 hown hK hP 0 rfl rfl 9 (by decide) (hts _ w_X4_lastHeld__fieldLink_RX4_32_WordsBesideModel_base_I__b13283) rfl dX4_lastHeld_7 ?_
      refine lv_iload_n hx hb dX4_lastHeld_10 rfl (lv_at hl 1 rfl) ?_
      refine zq_ild hx hb hK hP 8 rfl i rfl (by omega) (by decide) dX4_lastHeld_11 ?_
      refine zq_te (y := (nI (bo i))) hbb ?_
      refine lv_icmp_lt (tgt := 30) hx hb dX4_lastHeld_12 (by decide) (fun c12 => ?_) (fun c12 => ?_)
      · have hub : u ≤ bo i := (zpm_lt (by omega) (by omega)).mp (ex2 ▸ c12)
        refine lv_iload_n hx hb dX4_lastHeld_30 rfl (lv_at hl 2 rfl) ?_
        refine lv_aload_n hx hb dX4_lastHeld_31 rfl (lv_at hl 0 rfl) ?_
        refine zq_get hx hb hts in_X4_lastHeld_X4 hown hK hP 0 rfl rfl 9 (by decide) (hts _ w_X4_lastHeld__fieldLink_RX4_32_WordsBesideModel_base_I__b13283) rfl dX4_lastHeld_32 ?_
        refine lv_iload_n hx hb dX4_lastHeld_35 rfl (lv_at hl 1 rfl) ?_
        refine zq_ild hx hb hK hP 8 rfl i rfl (by omega) (by decide) dX4_lastHeld_36 ?_
        refine zq_te (y := (nI (bo i))) hbb ?_
        refine lv_icmp_lt (tgt := 44) hx hb dX4_lastHeld_37 (by decide) (fun c37 => ?_) (fun c37 => absurd c12 c37)
        refine lv_iconst (v := (-1 : Int32)) hx hb dX4_lastHeld_44 (by decide) ?_
        exact ret _ _ _ (by rw [hz]; cases u with
      | zero => rfl
      | succ u => rw [zlk, if_neg (by omega)]) dX4_lastHeld_45
      · have hbu0 : bo i < u := Nat.not_le.mp fun q => c12 (by rw [ex2]; exact (zpm_lt (by omega) (by omega)).mpr q)
        obtain ⟨u2, rfl⟩ : ∃ q, u = q + 1 := ⟨u - 1, by omega⟩
        have hbu : bo i ≤ u2 := by omega
        rw [nI_pred] at ex2
        subst ex2
        refine lv_aload_n hx hb dX4_lastHeld_15 rfl (lv_at hl 0 rfl) ?_
        refine lv_iload_n hx hb dX4_lastHeld_16 rfl (lv_at hl 1 rfl) ?_
        refine lv_iload_n hx hb dX4_lastHeld_17 rfl (lv_at hl 2 rfl) ?_
        refine zq_cV (rest := []) ⟨hx, hb, hml, hown, hts⟩ (c_X4_harm l D cI cZ cW cC ad ln st gv oF kF fF sF bF mF hF (nI k) cm m1 m2 fo bo n k hn hk HC i u2 (by omega) (by omega)) (cwV 2 hts gX4_lastHeld_X4_harm rfl rfl rfl (by decide +kernel) ⟨Nat.le_of_ble_eq_true rfl, Nat.le_of_ble_eq_true rfl⟩) hK hP 4 0 rfl rfl rfl hl.1 rfl (Nat.le_of_ble_eq_true rfl) dX4_lastHeld_18 ⟨Nat.le_of_ble_eq_true rfl, Nat.le_of_ble_eq_true rfl⟩ (fun v hv => ?_)
        obtain rfl := hv
        refine W.eq (g2 := F0 m 21 ls [.int (nI (fb_ct (zdn (zG gv u2) fo kF fF sF i) 256))]) rfl ?_
        refine lv_if_le (tgt := 30) hx hb dX4_lastHeld_21 (by decide) (fun c21 => ?_) (fun c21 => ?_)
        · refine lv_iload_n hx hb dX4_lastHeld_30 rfl (lv_at hl 2 rfl) ?_
          refine lv_aload_n hx hb dX4_lastHeld_31 rfl (lv_at hl 0 rfl) ?_
          refine zq_get hx hb hts in_X4_lastHeld_X4 hown hK hP 0 rfl rfl 9 (by decide) (hts _ w_X4_lastHeld__fieldLink_RX4_32_WordsBesideModel_base_I__b13283) rfl dX4_lastHeld_32 ?_
          refine lv_iload_n hx hb dX4_lastHeld_35 rfl (lv_at hl 1 rfl) ?_
          refine zq_ild hx hb hK hP 8 rfl i rfl (by omega) (by decide) dX4_lastHeld_36 ?_
          refine zq_te (y := (nI (bo i))) hbb ?_
          refine lv_icmp_lt (tgt := 44) hx hb dX4_lastHeld_37 (by decide) (fun c37 => absurd (zlt c37) (by omega)) (fun c37 => ?_)
          refine lv_iload_n hx hb dX4_lastHeld_40 rfl (lv_at hl 2 rfl) ?_
          refine lv_goto (tgt := 45) hx hb dX4_lastHeld_41 (by decide) ?_
          exact ret _ _ _ (by rw [hz, zlk, if_pos hbu]; simp only [zheld_le c21]; rfl) dX4_lastHeld_45
        · refine lv_iinc (v := (nI u2 + (-1))) (lv' := [(2, .int (nI u2 + (-1))), (0, .ref (ad 0)), (1, .int (nI i))]) hx hb dX4_lastHeld_24 hl (k := 2) rfl (rfl) (by decide) rfl (fun ls hl => ?_)
          refine lv_goto (tgt := 5) hx hb dX4_lastHeld_27 (by decide) ?_
          exact ih5 u2 (nI u2 + (-1)) ls (by omega) (by omega) (by rw [Int32.sub_eq_add_neg]) (by rw [hz, zlk, if_pos hbu]; simp only [zheld_nle c21]; rfl) (lv_sub hl [1, 2, 0] rfl)
  exact loop5 ((k + 1) + 1) (k + 1) (nI k) ls (by omega) (by omega) (nI_pred _).symm rfl (lv_sub hl [1, 2, 0] rfl)
set_option maxHeartbeats 4000000 in
set_option maxRecDepth 100000 in
theorem c_X4_isHeld (l : Launch) (D : va_G) (cI cZ cW cC : ClassId) (ad : Nat → Nat) (ln st gv oF kF fF sF bF mF hF : Nat → Int32) (kp cm m1 m2 : Int32) (fo bo : Nat → Nat) (n k : Nat) (hn : n ≤ 40) (hk : k ≤ 30) (HC : zHC fo bo oF kF fF bF n k) (i : Nat) (hi : i < n) : zq_ro l D cI cZ cW cC yX4_isHeld wsX4_isHeld ({ frames := 4, cells := 0, slots := 0, locals := 96 } : Room) [.ref (ad 0), .int (nI i)] (mW cI cZ ad ln st gv oF kF fF sF bF mF hF kp cm m1 m2) (fun v => v = some (.int (if zheld (zdn (zG gv 31) fo kF fF sF i) then 1 else 0))) := by
  refine zq_roZ (own := RX4) (by decide) rfl rfl (Nat.le_of_ble_eq_true rfl) ?_
  intro p e s m below meth c Q ls hF hP hK hl ret
  obtain ⟨hx, hb, hml, hown, hts⟩ := hF
  have hl : lv_has ls 2 [(0, .ref (ad 0)), (1, .int (nI i))] := hl
  refine lv_aload_n hx hb dX4_isHeld_0 rfl (lv_at hl 0 rfl) ?_
  refine lv_iload_n hx hb dX4_isHeld_1 rfl (lv_at hl 1 rfl) ?_
  refine lv_bipush (v := (nI 31)) hx hb dX4_isHeld_2 (by decide) ?_
  refine zq_cV (rest := []) ⟨hx, hb, hml, hown, hts⟩ (c_X4_harm l D cI cZ cW cC ad ln st gv oF kF fF sF bF mF hF kp cm m1 m2 fo bo n k hn hk HC i 31 (by omega) (by omega)) (cwV 2 hts gX4_isHeld_X4_harm rfl rfl rfl (by decide +kernel) ⟨Nat.le_of_ble_eq_true rfl, Nat.le_of_ble_eq_true rfl⟩) hK hP 4 0 rfl rfl rfl hl.1 rfl (Nat.le_of_ble_eq_true rfl) dX4_isHeld_4 ⟨Nat.le_of_ble_eq_true rfl, Nat.le_of_ble_eq_true rfl⟩ (fun v hv => ?_)
  obtain rfl := hv
  refine W.eq (g2 := F0 m 7 ls [.int (nI (fb_ct (zdn (zG gv 31) fo kF fF sF i) 256))]) rfl ?_
  refine lv_if_ne (tgt := 14) hx hb dX4_isHeld_7 (by decide) (fun c7 => ?_) (fun c7 => ?_)
  · refine lv_iconst (v := (0 : Int32)) hx hb dX4_isHeld_14 (by decide) ?_
    exact ret _ _ _ (Or.inl rfl) (by rw [zheld_cn c7]; rfl) dX4_isHeld_15
  · refine lv_iconst (v := (1 : Int32)) hx hb dX4_isHeld_10 (by decide) ?_
    refine lv_goto (tgt := 15) hx hb dX4_isHeld_11 (by decide) ?_
    exact ret _ _ _ (Or.inr rfl) (by rw [zheld_ct c7]; rfl) dX4_isHeld_15
set_option maxHeartbeats 4000000 in
set_option maxRecDepth 100000 in
theorem c_X4_stateOf (l : Launch) (D : va_G) (cI cZ cW cC : ClassId) (ad : Nat → Nat) (ln st gv oF kF fF sF bF mF hF : Nat → Int32) (kp cm m1 m2 : Int32) (fo bo : Nat → Nat) (n k : Nat) (hn : n ≤ 40) (hk : k ≤ 30) (HC : zHC fo bo oF kF fF bF n k) (ek : kp = nI k) (i : Nat) (hi : i < n) : zq_ro l D cI cZ cW cC yX4_stateOf wsX4_stateOf ({ frames := 5, cells := 0, slots := 0, locals := 118 } : Room) [.ref (ad 0), .int (nI i)] (mW cI cZ ad ln st gv oF kF fF sF bF mF hF kp cm m1 m2) (fun v => v = some (.int (zstd (zheld (zdn (zG gv 31) fo kF fF sF i)) (zlk (fun t => zheld (zdn (zG gv t) fo kF fF sF i)) (bo i) (k + 1))))) := by
  refine zq_roI (own := RX4) (by decide) rfl rfl (Nat.le_of_ble_eq_true rfl) ?_
  intro p e s m below meth c Q ls hF hP hK hl ret
  obtain ⟨hx, hb, hml, hown, hts⟩ := hF
  have hl : lv_has ls 2 [(0, .ref (ad 0)), (1, .int (nI i))] := hl
  refine lv_aload_n hx hb dX4_stateOf_0 rfl (lv_at hl 0 rfl) ?_
  refine lv_iload_n hx hb dX4_stateOf_1 rfl (lv_at hl 1 rfl) ?_
  refine zq_cV (rest := []) ⟨hx, hb, hml, hown, hts⟩ (c_X4_isHeld l D cI cZ cW cC ad ln st gv oF kF fF sF bF mF hF kp cm m1 m2 fo bo n k hn hk HC i (by omega)) (cwV 1 hts gX4_stateOf_X4_isHeld rfl rfl rfl (by decide +kernel) ⟨Nat.le_of_ble_eq_true rfl, Nat.le_of_ble_eq_true rfl⟩) hK hP 4 0 rfl rfl rfl hl.1 rfl (Nat.le_of_ble_eq_true rfl) dX4_stateOf_2 ⟨Nat.le_of_ble_eq_true rfl, Nat.le_of_ble_eq_true rfl⟩ (fun v hv => ?_)
  obtain rfl := hv
  refine W.eq (g2 := F0 m 5 ls [.int (if zheld (zdn (zG gv 31) fo kF fF sF i) then (1 : Int32) else 0)]) rfl ?_
  refine lv_if_eq (tgt := 12) hx hb dX4_stateOf_5 (by decide) (fun c5 => ?_) (fun c5 => ?_)
  · refine lv_aload_n hx hb dX4_stateOf_12 rfl (lv_at hl 0 rfl) ?_
    refine lv_iload_n hx hb dX4_stateOf_13 rfl (lv_at hl 1 rfl) ?_
    refine zq_cV (rest := []) ⟨hx, hb, hml, hown, hts⟩ (c_X4_lastHeld l D cI cZ cW cC ad ln st gv oF kF fF sF bF mF hF kp cm m1 m2 fo bo n k hn hk HC ek i (by omega)) (cwV 1 hts gX4_stateOf_X4_lastHeld rfl rfl rfl (by decide +kernel) ⟨Nat.le_of_ble_eq_true rfl, Nat.le_of_ble_eq_true rfl⟩) hK hP 4 0 rfl rfl rfl hl.1 rfl (Nat.le_of_ble_eq_true rfl) dX4_stateOf_14 ⟨Nat.le_of_ble_eq_true rfl, Nat.le_of_ble_eq_true rfl⟩ (fun v hv => ?_)
    obtain rfl := hv
    refine W.eq (g2 := F0 m 17 ls [.int (zlk (fun t => zheld (zdn (zG gv t) fo kF fF sF i)) (bo i) (k + 1))]) rfl ?_
    refine lv_iconst (v := (-1 : Int32)) hx hb dX4_stateOf_17 (by decide) ?_
    refine lv_icmp_ne (tgt := 25) hx hb dX4_stateOf_18 (by decide) (fun c18 => ?_) (fun c18 => ?_)
    · refine lv_iconst (v := (2 : Int32)) hx hb dX4_stateOf_25 (by decide) ?_
      exact ret _ _ _ (by rw [zct_bb c5]; simp [zstd, c18]) dX4_stateOf_26
    · refine lv_iconst (v := (1 : Int32)) hx hb dX4_stateOf_21 (by decide) ?_
      refine lv_goto (tgt := 26) hx hb dX4_stateOf_22 (by decide) ?_
      exact ret _ _ _ (by rw [zct_bb c5]; simp [zstd, c18]) dX4_stateOf_26
  · refine lv_iconst (v := (0 : Int32)) hx hb dX4_stateOf_8 (by decide) ?_
    refine lv_goto (tgt := 26) hx hb dX4_stateOf_9 (by decide) ?_
    exact ret _ _ _ (by rw [zct_aa c5]; rfl) dX4_stateOf_26
theorem w_X4_told__constant_RX4_64_2147483648__c0c951 : (.constant RX4 64 (-2147483648) : Cond) ∈ wsX4_told := by decide +kernel
theorem w_X4_told__fieldLink_RX4_20_WordsBesideModel_of_I__9fac8e : (.fieldLink RX4 20 "WordsBesideModel" "of" "[I" : Cond) ∈ wsX4_told := by decide +kernel
theorem w_X4_told__fieldLink_RX4_23_WordsBesideModel_kind_I__cf4f2c : (.fieldLink RX4 23 "WordsBesideModel" "kind" "[I" : Cond) ∈ wsX4_told := by decide +kernel
theorem w_X4_told__fieldLink_RX4_26_WordsBesideModel_first_I__de9671 : (.fieldLink RX4 26 "WordsBesideModel" "first" "[I" : Cond) ∈ wsX4_told := by decide +kernel
theorem w_X4_told__fieldLink_RX4_29_WordsBesideModel_second_I__491129 : (.fieldLink RX4 29 "WordsBesideModel" "second" "[I" : Cond) ∈ wsX4_told := by decide +kernel
theorem w_X4_told__fieldLink_RX4_35_WordsBesideModel_isMarked_Z__f949ba : (.fieldLink RX4 35 "WordsBesideModel" "isMarked" "[Z" : Cond) ∈ wsX4_told := by decide +kernel
theorem in_X4_told_X4 : ∀ w ∈ wsX40, w ∈ wsX4_told := fun _ h => List.mem_cons_of_mem _ (List.mem_append_right _ h)
set_option maxHeartbeats 4000000 in
set_option maxRecDepth 100000 in
theorem c_X4_told (l : Launch) (D : va_G) (cI cZ cW cC : ClassId) (ad : Nat → Nat) (ln st gv oF kF fF sF bF mF hF : Nat → Int32) (kp cm m1 m2 : Int32) (fo bo : Nat → Nat) (n k : Nat) (hn : n ≤ 40) (hk : k ≤ 30) (HC : zHC fo bo oF kF fF bF n k) (ek : kp = nI k) (en : cm = nI n) (cl wh : Int32) : zq_ro l D cI cZ cW cC yX4_told wsX4_told ({ frames := 6, cells := 0, slots := 0, locals := 139 } : Room) [.ref (ad 0), .int cl, .int wh] (mW cI cZ ad ln st gv oF kF fF sF bF mF hF kp cm m1 m2) (fun v => v = some (.int (ztold n cl wh (fun i => (zstd (zheld (zdn (zG gv 31) fo kF fF sF i)) (zlk (fun t => zheld (zdn (zG gv t) fo kF fF sF i)) (bo i) (k + 1)))) (fun i => nI (fb_ct (zdn (zG gv 31) fo kF fF sF i) 256)) (fun i => nI (fo i)) kF fF sF (fun i => zlk (fun t => zheld (zdn (zG gv t) fo kF fF sF i)) (bo i) (k + 1)) mF))) := by
  refine zq_roI (own := RX4) (by decide) rfl rfl (Nat.le_of_ble_eq_true rfl) ?_
  intro p e s m below meth c Q ls hF hP hK hl ret
  obtain ⟨hx, hb, hml, hown, hts⟩ := hF
  have hl : lv_has ls 3 [(0, .ref (ad 0)), (1, .int cl), (2, .int wh)] := hl
  refine lv_aload_n hx hb dX4_told_0 rfl (lv_at hl 0 rfl) ?_
  refine lv_iload_n hx hb dX4_told_1 rfl (lv_at hl 1 rfl) ?_
  refine zq_cV (rest := []) ⟨hx, hb, hml, hown, hts⟩ (c_X4_isClaim l D cI cZ cW cC ad ln st gv oF kF fF sF bF mF hF kp cm m1 m2 n hn en cl) (cwV 1 hts gX4_told_X4_isClaim rfl rfl rfl (by decide +kernel) ⟨Nat.le_of_ble_eq_true rfl, Nat.le_of_ble_eq_true rfl⟩) hK hP 4 0 rfl rfl rfl hl.1 rfl (Nat.le_of_ble_eq_true rfl) dX4_told_2 ⟨Nat.le_of_ble_eq_true rfl, Nat.le_of_ble_eq_true rfl⟩ (fun v hv => ?_)
  rcases hv with ⟨rfl, i, hi, rfl⟩ | ⟨rfl, hyc⟩
  · refine W.eq (g2 := F0 m 5 ls [.int (1 : Int32)]) rfl ?_
    refine lv_if_ne (tgt := 11) hx hb dX4_told_5 (by decide) (fun c5 => ?_) (fun c5 => absurd c5 (by decide))
    refine lv_iload_n hx hb dX4_told_11 rfl (lv_at hl 2 rfl) ?_
    by_cases k12_0 : wh = (0 : Int32)
    · refine lv_tableIn (tgt := 60) hx hb dX4_told_12 (by rw [k12_0]; decide) (by rw [k12_0]; decide) (by rw [k12_0]; rfl) (by decide) ?_
      refine lv_aload_n hx hb dX4_told_60 rfl (lv_at hl 0 rfl) ?_
      refine lv_iload_n hx hb dX4_told_61 rfl (lv_at hl 1 rfl) ?_
      refine zq_cV (rest := []) ⟨hx, hb, hml, hown, hts⟩ (c_X4_stateOf l D cI cZ cW cC ad ln st gv oF kF fF sF bF mF hF kp cm m1 m2 fo bo n k hn hk HC ek i (by omega)) (cwV 1 hts gX4_told_X4_stateOf rfl rfl rfl (by decide +kernel) ⟨Nat.le_of_ble_eq_true rfl, Nat.le_of_ble_eq_true rfl⟩) hK hP 4 0 rfl rfl rfl hl.1 rfl (Nat.le_of_ble_eq_true rfl) dX4_told_62 ⟨Nat.le_of_ble_eq_true rfl, Nat.le_of_ble_eq_true rfl⟩ (fun v hv => ?_)
      obtain rfl := hv
      refine W.eq (g2 := F0 m 65 ls [.int (zstd (zheld (zdn (zG gv 31) fo kF fF sF i)) (zlk (fun t => zheld (zdn (zG gv t) fo kF fF sF i)) (bo i) (k + 1)))]) rfl ?_
      exact ret _ _ _ (by rw [ztold_in hi hn]; simp [k12_0]) dX4_told_65
    · by_cases k12_1 : wh = (1 : Int32)
      · refine lv_tableIn (tgt := 66) hx hb dX4_told_12 (by rw [k12_1]; decide) (by rw [k12_1]; decide) (by rw [k12_1]; rfl) (by decide) ?_
        refine lv_aload_n hx hb dX4_told_66 rfl (lv_at hl 0 rfl) ?_
        refine zq_get hx hb hts in_X4_told_X4 hown hK hP 0 rfl rfl 5 (by decide) (hts _ w_X4_told__fieldLink_RX4_20_WordsBesideModel_of_I__9fac8e) rfl dX4_told_67 ?_
        refine lv_iload_n hx hb dX4_told_70 rfl (lv_at hl 1 rfl) ?_
        refine zq_ild hx hb hK hP 4 rfl i rfl (by omega) (by decide) dX4_told_71 ?_
        refine zq_te (y := (nI (fo i))) (HC i hi).1 ?_
        exact ret _ _ _ (by rw [ztold_in hi hn]; simp [k12_1]) dX4_told_72
      · by_cases k12_2 : wh = (2 : Int32)
        · refine lv_tableIn (tgt := 73) hx hb dX4_told_12 (by rw [k12_2]; decide) (by rw [k12_2]; decide) (by rw [k12_2]; rfl) (by decide) ?_
          refine lv_aload_n hx hb dX4_told_73 rfl (lv_at hl 0 rfl) ?_
          refine zq_get hx hb hts in_X4_told_X4 hown hK hP 0 rfl rfl 6 (by decide) (hts _ w_X4_told__fieldLink_RX4_23_WordsBesideModel_kind_I__cf4f2c) rfl dX4_told_74 ?_
          refine lv_iload_n hx hb dX4_told_77 rfl (lv_at hl 1 rfl) ?_
          refine zq_ild hx hb hK hP 5 rfl i rfl (by omega) (by decide) dX4_told_78 ?_
          exact ret _ _ _ (by rw [ztold_in hi hn]; simp [k12_2]) dX4_told_79
        · by_cases k12_3 : wh = (3 : Int32)
          · refine lv_tableIn (tgt := 80) hx hb dX4_told_12 (by rw [k12_3]; decide) (by rw [k12_3]; decide) (by rw [k12_3]; rfl) (by decide) ?_
            refine lv_aload_n hx hb dX4_told_80 rfl (lv_at hl 0 rfl) ?_
            refine zq_get hx hb hts in_X4_told_X4 hown hK hP 0 rfl rfl 7 (by decide) (hts _ w_X4_told__fieldLink_RX4_26_WordsBesideModel_first_I__de9671) rfl dX4_told_81 ?_
            refine lv_iload_n hx hb dX4_told_84 rfl (lv_at hl 1 rfl) ?_
            refine zq_ild hx hb hK hP 6 rfl i rfl (by omega) (by decide) dX4_told_85 ?_
            exact ret _ _ _ (by rw [ztold_in hi hn]; simp [k12_3]) dX4_told_86
          · by_cases k12_4 : wh = (4 : Int32)
            · refine lv_tableIn (tgt := 87) hx hb dX4_told_12 (by rw [k12_4]; decide) (by rw [k12_4]; decide) (by rw [k12_4]; rfl) (by decide) ?_
              refine lv_aload_n hx hb dX4_told_87 rfl (lv_at hl 0 rfl) ?_
              refine zq_get hx hb hts in_X4_told_X4 hown hK hP 0 rfl rfl 8 (by decide) (hts _ w_X4_told__fieldLink_RX4_29_WordsBesideModel_second_I__491129) rfl dX4_told_88 ?_
              refine lv_iload_n hx hb dX4_told_91 rfl (lv_at hl 1 rfl) ?_
              refine zq_ild hx hb hK hP 7 rfl i rfl (by omega) (by decide) dX4_told_92 ?_
              exact ret _ _ _ (by rw [ztold_in hi hn]; simp [k12_4]) dX4_told_93
            · by_cases k12_5 : wh = (5 : Int32)
              · refine lv_tableIn (tgt := 94) hx hb dX4_told_12 (by rw [k12_5]; decide) (by rw [k12_5]; decide) (by rw [k12_5]; rfl) (by decide) ?_
                refine lv_aload_n hx hb dX4_told_94 rfl (lv_at hl 0 rfl) ?_
                refine lv_iload_n hx hb dX4_told_95 rfl (lv_at hl 1 rfl) ?_
                refine lv_bipush (v := (nI 31)) hx hb dX4_told_96 (by decide) ?_
                refine zq_cV (rest := []) ⟨hx, hb, hml, hown, hts⟩ (c_X4_harm l D cI cZ cW cC ad ln st gv oF kF fF sF bF mF hF kp cm m1 m2 fo bo n k hn hk HC i 31 (by omega) (by omega)) (cwV 2 hts gX4_told_X4_harm rfl rfl rfl (by decide +kernel) ⟨Nat.le_of_ble_eq_true rfl, Nat.le_of_ble_eq_true rfl⟩) hK hP 4 0 rfl rfl rfl hl.1 rfl (Nat.le_of_ble_eq_true rfl) dX4_told_98 ⟨Nat.le_of_ble_eq_true rfl, Nat.le_of_ble_eq_true rfl⟩ (fun v hv => ?_)
                obtain rfl := hv
                refine W.eq (g2 := F0 m 101 ls [.int (nI (fb_ct (zdn (zG gv 31) fo kF fF sF i) 256))]) rfl ?_
                exact ret _ _ _ (by rw [ztold_in hi hn]; simp [k12_5]) dX4_told_101
              · by_cases k12_6 : wh = (6 : Int32)
                · refine lv_tableIn (tgt := 102) hx hb dX4_told_12 (by rw [k12_6]; decide) (by rw [k12_6]; decide) (by rw [k12_6]; rfl) (by decide) ?_
                  refine lv_aload_n hx hb dX4_told_102 rfl (lv_at hl 0 rfl) ?_
                  refine lv_iload_n hx hb dX4_told_103 rfl (lv_at hl 1 rfl) ?_
                  refine zq_cV (rest := []) ⟨hx, hb, hml, hown, hts⟩ (c_X4_stateOf l D cI cZ cW cC ad ln st gv oF kF fF sF bF mF hF kp cm m1 m2 fo bo n k hn hk HC ek i (by omega)) (cwV 1 hts gX4_told_X4_stateOf rfl rfl rfl (by decide +kernel) ⟨Nat.le_of_ble_eq_true rfl, Nat.le_of_ble_eq_true rfl⟩) hK hP 4 0 rfl rfl rfl hl.1 rfl (Nat.le_of_ble_eq_true rfl) dX4_told_104 ⟨Nat.le_of_ble_eq_true rfl, Nat.le_of_ble_eq_true rfl⟩ (fun v hv => ?_)
                  obtain rfl := hv
                  refine W.eq (g2 := F0 m 107 ls [.int (zstd (zheld (zdn (zG gv 31) fo kF fF sF i)) (zlk (fun t => zheld (zdn (zG gv t) fo kF fF sF i)) (bo i) (k + 1)))]) rfl ?_
                  refine lv_iconst (v := (2 : Int32)) hx hb dX4_told_107 (by decide) ?_
                  refine lv_icmp_ne (tgt := 121) hx hb dX4_told_108 (by decide) (fun c108 => ?_) (fun c108 => ?_)
                  · refine lv_iconst (v := (-1 : Int32)) hx hb dX4_told_121 (by decide) ?_
                    exact ret _ _ _ (by rw [ztold_in hi hn]; simp [k12_6, c108]) dX4_told_122
                  · refine lv_aload_n hx hb dX4_told_111 rfl (lv_at hl 0 rfl) ?_
                    refine lv_iload_n hx hb dX4_told_112 rfl (lv_at hl 1 rfl) ?_
                    refine zq_cV (rest := []) ⟨hx, hb, hml, hown, hts⟩ (c_X4_lastHeld l D cI cZ cW cC ad ln st gv oF kF fF sF bF mF hF kp cm m1 m2 fo bo n k hn hk HC ek i (by omega)) (cwV 1 hts gX4_told_X4_lastHeld rfl rfl rfl (by decide +kernel) ⟨Nat.le_of_ble_eq_true rfl, Nat.le_of_ble_eq_true rfl⟩) hK hP 4 0 rfl rfl rfl hl.1 rfl (Nat.le_of_ble_eq_true rfl) dX4_told_113 ⟨Nat.le_of_ble_eq_true rfl, Nat.le_of_ble_eq_true rfl⟩ (fun v hv => ?_)
                    obtain rfl := hv
                    refine W.eq (g2 := F0 m 116 ls [.int (zlk (fun t => zheld (zdn (zG gv t) fo kF fF sF i)) (bo i) (k + 1))]) rfl ?_
                    refine lv_iconst (v := (1 : Int32)) hx hb dX4_told_116 (by decide) ?_
                    refine lv_iadd hx hb dX4_told_117 ?_
                    refine lv_goto (tgt := 122) hx hb dX4_told_118 (by decide) ?_
                    exact ret _ _ _ (by rw [ztold_in hi hn]; simp [k12_6, c108]) dX4_told_122
                · by_cases k12_7 : wh = (7 : Int32)
                  · refine lv_tableIn (tgt := 123) hx hb dX4_told_12 (by rw [k12_7]; decide) (by rw [k12_7]; decide) (by rw [k12_7]; rfl) (by decide) ?_
                    refine lv_aload_n hx hb dX4_told_123 rfl (lv_at hl 0 rfl) ?_
                    refine zq_get hx hb hts in_X4_told_X4 hown hK hP 0 rfl rfl 10 (by decide) (hts _ w_X4_told__fieldLink_RX4_35_WordsBesideModel_isMarked_Z__f949ba) rfl dX4_told_124 ?_
                    refine lv_iload_n hx hb dX4_told_127 rfl (lv_at hl 1 rfl) ?_
                    refine zq_zld hx hb hK hP 9 rfl i rfl (by omega) (by decide) dX4_told_128 ?_
                    refine lv_if_eq (tgt := 136) hx hb dX4_told_129 (by decide) (fun c129 => ?_) (fun c129 => ?_)
                    · refine lv_iconst (v := (0 : Int32)) hx hb dX4_told_136 (by decide) ?_
                      exact ret _ _ _ (by rw [ztold_in hi hn]; simp [k12_7, c129]) dX4_told_137
                    · refine lv_iconst (v := (1 : Int32)) hx hb dX4_told_132 (by decide) ?_
                      refine lv_goto (tgt := 137) hx hb dX4_told_133 (by decide) ?_
                      exact ret _ _ _ (by rw [ztold_in hi hn]; simp [k12_7, c129]) dX4_told_137
                  · refine lv_tableOut (tgt := 138) hx hb dX4_told_12 (by have k12_0T := lv_neT k12_0 (a := 0) rfl; have k12_1T := lv_neT k12_1 (a := 1) rfl; have k12_2T := lv_neT k12_2 (a := 2) rfl; have k12_3T := lv_neT k12_3 (a := 3) rfl; have k12_4T := lv_neT k12_4 (a := 4) rfl; have k12_5T := lv_neT k12_5 (a := 5) rfl; have k12_6T := lv_neT k12_6 (a := 6) rfl; have k12_7T := lv_neT k12_7 (a := 7) rfl; omega) (by decide) ?_
                    refine lv_ldc (v := (-2147483648 : Int32)) hx hb hown (hts _ w_X4_told__constant_RX4_64_2147483648__c0c951) dX4_told_138 ?_
                    exact ret _ _ _ (by rw [ztold_in hi hn]; simp [k12_0, k12_1, k12_2, k12_3, k12_4, k12_5, k12_6, k12_7]) dX4_told_140
  · refine W.eq (g2 := F0 m 5 ls [.int (0 : Int32)]) rfl ?_
    refine lv_if_ne (tgt := 11) hx hb dX4_told_5 (by decide) (fun c5 => absurd c5 (by decide)) (fun c5 => ?_)
    refine lv_ldc (v := (-2147483648 : Int32)) hx hb hown (hts _ w_X4_told__constant_RX4_64_2147483648__c0c951) dX4_told_8 ?_
    exact ret _ _ _ (by rw [ztold_no hyc]) dX4_told_10
set_option maxHeartbeats 4000000 in
set_option maxRecDepth 100000 in
theorem c_X4_denied (l : Launch) (D : va_G) (cI cZ cW cC : ClassId) (ad : Nat → Nat) (ln st gv oF kF fF sF bF mF hF : Nat → Int32) (kp cm m1 m2 : Int32) (fo bo : Nat → Nat) (n k : Nat) (hn : n ≤ 40) (hk : k ≤ 30) (HC : zHC fo bo oF kF fF bF n k) (en : cm = nI n) (cl : Int32) : zq_ro l D cI cZ cW cC yX4_denied wsX4_denied ({ frames := 3, cells := 0, slots := 0, locals := 72 } : Room) [.ref (ad 0), .int cl] (mW cI cZ ad ln st gv oF kF fF sF bF mF hF kp cm m1 m2) (fun v => v = some (.int (zdnd n cl (fun i => (zdn (zG gv 31) fo kF fF sF i))))) := by
  refine zq_roI (own := RX4) (by decide) rfl rfl (Nat.le_of_ble_eq_true rfl) ?_
  intro p e s m below meth c Q ls hF hP hK hl ret
  obtain ⟨hx, hb, hml, hown, hts⟩ := hF
  have hl : lv_has ls 3 [(0, .ref (ad 0)), (1, .int cl)] := hl
  refine lv_aload_n hx hb dX4_denied_0 rfl (lv_at hl 0 rfl) ?_
  refine lv_iload_n hx hb dX4_denied_1 rfl (lv_at hl 1 rfl) ?_
  refine zq_cV (rest := []) ⟨hx, hb, hml, hown, hts⟩ (c_X4_isClaim l D cI cZ cW cC ad ln st gv oF kF fF sF bF mF hF kp cm m1 m2 n hn en cl) (cwV 1 hts gX4_denied_X4_isClaim rfl rfl rfl (by decide +kernel) ⟨Nat.le_of_ble_eq_true rfl, Nat.le_of_ble_eq_true rfl⟩) hK hP 4 0 rfl rfl rfl hl.1 rfl (Nat.le_of_ble_eq_true rfl) dX4_denied_2 ⟨Nat.le_of_ble_eq_true rfl, Nat.le_of_ble_eq_true rfl⟩ (fun v hv => ?_)
  rcases hv with ⟨rfl, i, hi, rfl⟩ | ⟨rfl, hyc⟩
  · refine W.eq (g2 := F0 m 5 ls [.int (1 : Int32)]) rfl ?_
    refine lv_if_ne (tgt := 10) hx hb dX4_denied_5 (by decide) (fun c5 => ?_) (fun c5 => absurd c5 (by decide))
    refine lv_iconst (v := (0 : Int32)) hx hb dX4_denied_10 (by decide) ?_
    refine lv_istore_n (lv' := [(2, .int (nI 0)), (0, .ref (ad 0)), (1, .int (nI i))]) hx hb dX4_denied_11 rfl hl (by decide) rfl (fun ls hl => ?_)
    have loop12 : ∀ (fu12 : Nat) (j : Nat) (ls : Array Slot), (256 - j) < fu12 → (j ≤ 256) → (∀ q, q < j → (zdn (zG gv 31) fo kF fF sF i) q = false) → lv_has ls 3 [(0, .ref (ad 0)), (1, .int (nI i)), (2, .int (nI j))] → W p l e ({ frames := 3, cells := 0, slots := 0, locals := 72 } : Room) s m ([.ref (ad 0), .int (nI i)] : List Value).toArray below meth c s.heap [] 0 0 Q (F0 m 12 ls []) := by
      intro fu12
      induction fu12 with
      | zero => intro _ _ hmu; exact absurd hmu (Nat.not_lt_zero _)
      | succ fu12 ih12 =>
        intro j ls hmu12 hj hno hl
        refine lv_iload_n hx hb dX4_denied_12 rfl (lv_at hl 2 rfl) ?_
        refine lv_sipush (v := (nI 256)) hx hb dX4_denied_13 (by decide) ?_
        refine lv_icmp_ge (tgt := 38) hx hb dX4_denied_16 (by decide) (fun c16 => ?_) (fun c16 => ?_)
        · have h16 := zle c16
          refine lv_iconst (v := (-1 : Int32)) hx hb dX4_denied_38 (by decide) ?_
          exact ret _ _ _ (by rw [zdnd_in hi hn, zfirst_none (fun q hq => hno q (by omega)), if_neg (by omega)]) dX4_denied_39
        · have h16 := znle c16
          refine lv_aload_n hx hb dX4_denied_19 rfl (lv_at hl 0 rfl) ?_
          refine lv_iload_n hx hb dX4_denied_20 rfl (lv_at hl 1 rfl) ?_
          refine lv_bipush (v := (nI 31)) hx hb dX4_denied_21 (by decide) ?_
          refine lv_iload_n hx hb dX4_denied_23 rfl (lv_at hl 2 rfl) ?_
          refine zq_cV (rest := []) ⟨hx, hb, hml, hown, hts⟩ (c_X4_denies l D cI cZ cW cC ad ln st gv oF kF fF sF bF mF hF kp cm m1 m2 fo bo n k hn hk HC i 31 j (by omega) (by omega) (by omega)) (cwV 3 hts gX4_denied_X4_denies rfl rfl rfl (by decide +kernel) ⟨Nat.le_of_ble_eq_true rfl, Nat.le_of_ble_eq_true rfl⟩) hK hP 4 0 rfl rfl rfl hl.1 rfl (Nat.le_of_ble_eq_true rfl) dX4_denied_24 ⟨Nat.le_of_ble_eq_true rfl, Nat.le_of_ble_eq_true rfl⟩ (fun v hv => ?_)
          obtain rfl := hv
          refine W.eq (g2 := F0 m 27 ls [.int (if zdn (zG gv 31) fo kF fF sF i j then (1 : Int32) else 0)]) rfl ?_
          refine lv_if_eq (tgt := 32) hx hb dX4_denied_27 (by decide) (fun c27 => ?_) (fun c27 => ?_)
          · refine lv_iinc (v := (nI (j + 1))) (lv' := [(2, .int (nI (j + 1))), (0, .ref (ad 0)), (1, .int (nI i))]) hx hb dX4_denied_32 hl (k := 2) rfl ((nI_succ _).symm) (by decide) rfl (fun ls hl => ?_)
            refine lv_goto (tgt := 12) hx hb dX4_denied_35 (by decide) ?_
            exact ih12 (j + 1) ls (by omega) (by omega) (lt_s hno (zct_b c27)) (lv_sub hl [1, 2, 0] rfl)
          · refine lv_iload_n hx hb dX4_denied_30 rfl (lv_at hl 2 rfl) ?_
            exact ret _ _ _ (by rw [zdnd_in hi hn, zfirst_eq (k := j) (by omega) (zct_a c27) hno, if_pos (by omega)]) dX4_denied_31
    exact loop12 (256 + 1) 0 ls (by omega) (by omega) (fun q hq => absurd hq (Nat.not_lt_zero q)) (lv_sub hl [1, 2, 0] rfl)
  · refine W.eq (g2 := F0 m 5 ls [.int (0 : Int32)]) rfl ?_
    refine lv_if_ne (tgt := 10) hx hb dX4_denied_5 (by decide) (fun c5 => absurd c5 (by decide)) (fun c5 => ?_)
    refine lv_iconst (v := (-1 : Int32)) hx hb dX4_denied_8 (by decide) ?_
    exact ret _ _ _ (by rw [zdnd_no hyc]) dX4_denied_9
theorem w_X4_hasClaim__fieldLink_RX4_20_WordsBesideModel_of_I__9fac8e : (.fieldLink RX4 20 "WordsBesideModel" "of" "[I" : Cond) ∈ wsX4_hasClaim := by decide +kernel
theorem w_X4_hasClaim__fieldLink_RX4_23_WordsBesideModel_kind_I__cf4f2c : (.fieldLink RX4 23 "WordsBesideModel" "kind" "[I" : Cond) ∈ wsX4_hasClaim := by decide +kernel
theorem w_X4_hasClaim__fieldLink_RX4_79_WordsBesideModel_claims_I__a0b76b : (.fieldLink RX4 79 "WordsBesideModel" "claims" "I" : Cond) ∈ wsX4_hasClaim := by decide +kernel
theorem in_X4_hasClaim_X4 : ∀ w ∈ wsX40, w ∈ wsX4_hasClaim := fun _ h => List.mem_cons_of_mem _ (List.mem_append_right _ h)
set_option maxHeartbeats 4000000 in
set_option maxRecDepth 100000 in
theorem c_X4_hasClaim (l : Launch) (D : va_G) (cI cZ cW cC : ClassId) (ad : Nat → Nat) (ln st gv oF kF fF sF bF mF hF : Nat → Int32) (kp cm m1 m2 : Int32) (fo bo : Nat → Nat) (n k : Nat) (hn : n ≤ 40) (hk : k ≤ 30) (HC : zHC fo bo oF kF fF bF n k) (en : cm = nI n) (f : Nat) (hf0 : f < 6) (a1 b1 : Int32) : zq_ro l D cI cZ cW cC yX4_hasClaim wsX4_hasClaim ({ frames := 0, cells := 0, slots := 0, locals := 0 } : Room) [.ref (ad 0), .int (nI f), .int a1, .int b1] (mW cI cZ ad ln st gv oF kF fF sF bF mF hF kp cm m1 m2) (fun v => v = some (.int (if 0 < fb_ct (zhas fo f (fun i => decide (a1 = -1 ∨ kF i = a1 ∨ kF i = b1))) n then 1 else 0))) := by
  refine zq_roZ (own := RX4) (by decide) rfl rfl (Nat.le_of_ble_eq_true rfl) ?_
  intro p e s m below meth c Q ls hF hP hK hl ret
  obtain ⟨hx, hb, hml, hown, hts⟩ := hF
  have hl : lv_has ls 5 [(0, .ref (ad 0)), (1, .int (nI f)), (2, .int a1), (3, .int b1)] := hl
  subst en
  refine lv_iconst (v := (0 : Int32)) hx hb dX4_hasClaim_0 (by decide) ?_
  refine lv_istore (lv' := [(4, .int (nI 0)), (0, .ref (ad 0)), (1, .int (nI f)), (2, .int a1), (3, .int b1)]) hx hb dX4_hasClaim_1 hl (by decide) rfl (fun ls hl => ?_)
  have loop3 : ∀ (fu3 : Nat) (j : Nat) (ls : Array Slot), (n - j) < fu3 → (j ≤ n) → (∀ q, q < j → (zhas fo f (fun i => decide (a1 = -1 ∨ kF i = a1 ∨ kF i = b1))) q = false) → lv_has ls 5 [(0, .ref (ad 0)), (1, .int (nI f)), (2, .int a1), (3, .int b1), (4, .int (nI j))] → W p l e ({ frames := 0, cells := 0, slots := 0, locals := 0 } : Room) s m ([.ref (ad 0), .int (nI f), .int a1, .int b1] : List Value).toArray below meth c s.heap [] 0 0 Q (F0 m 3 ls []) := by
    intro fu3
    induction fu3 with
    | zero => intro _ _ hmu; exact absurd hmu (Nat.not_lt_zero _)
    | succ fu3 ih3 =>
      intro j ls hmu3 hj hno hl
      refine lv_iload hx hb dX4_hasClaim_3 (lv_at hl 4 rfl) ?_
      refine lv_aload_n hx hb dX4_hasClaim_5 rfl (lv_at hl 0 rfl) ?_
      refine zq_get hx hb hts in_X4_hasClaim_X4 hown hK hP 0 rfl rfl 4 (by decide) (hts _ w_X4_hasClaim__fieldLink_RX4_79_WordsBesideModel_claims_I__a0b76b) rfl dX4_hasClaim_6 ?_
      refine lv_icmp_ge (tgt := 58) hx hb dX4_hasClaim_9 (by decide) (fun c9 => ?_) (fun c9 => ?_)
      · have h9 := zle c9
        refine lv_iconst (v := (0 : Int32)) hx hb dX4_hasClaim_58 (by decide) ?_
        exact ret _ _ _ (Or.inl rfl) (by rw [if_neg (by rw [fb_ct_zero.mpr (fun q hq => hno q (by omega))]; omega)]) dX4_hasClaim_59
      · have h9 := znle c9
        have hfo := (HC j (znle c9)).2.1
        refine lv_aload_n hx hb dX4_hasClaim_12 rfl (lv_at hl 0 rfl) ?_
        refine zq_get hx hb hts in_X4_hasClaim_X4 hown hK hP 0 rfl rfl 5 (by decide) (hts _ w_X4_hasClaim__fieldLink_RX4_20_WordsBesideModel_of_I__9fac8e) rfl dX4_hasClaim_13 ?_
        refine lv_iload hx hb dX4_hasClaim_16 (lv_at hl 4 rfl) ?_
        refine zq_ild hx hb hK hP 4 rfl j rfl (by omega) (by decide) dX4_hasClaim_18 ?_
        refine zq_te (y := (nI (fo j))) (HC j (by omega)).1 ?_
        refine lv_iload_n hx hb dX4_hasClaim_19 rfl (lv_at hl 1 rfl) ?_
        refine lv_icmp_ne (tgt := 52) hx hb dX4_hasClaim_20 (by decide) (fun c20 => ?_) (fun c20 => ?_)
        · have h20 := zne c20
          refine lv_iinc (v := (nI (j + 1))) (lv' := [(4, .int (nI (j + 1))), (0, .ref (ad 0)), (1, .int (nI f)), (2, .int a1), (3, .int b1)]) hx hb dX4_hasClaim_52 hl (k := 4) rfl ((nI_succ _).symm) (by decide) rfl (fun ls hl => ?_)
          refine lv_goto (tgt := 3) hx hb dX4_hasClaim_55 (by decide) ?_
          exact ih3 (j + 1) ls (by omega) (by omega) (lt_s hno (by simp [zhas, show ¬ fo j = f from h20])) (lv_sub hl [1, 2, 3, 4, 0] rfl)
        · have h20 := zeq c20
          refine lv_iload_n hx hb dX4_hasClaim_23 rfl (lv_at hl 2 rfl) ?_
          refine lv_iconst (v := (-1 : Int32)) hx hb dX4_hasClaim_24 (by decide) ?_
          refine lv_icmp_eq (tgt := 50) hx hb dX4_hasClaim_25 (by decide) (fun c25 => ?_) (fun c25 => ?_)
          · refine lv_iconst (v := (1 : Int32)) hx hb dX4_hasClaim_50 (by decide) ?_
            exact ret _ _ _ (Or.inr rfl) (by rw [if_pos (fb_ct_pos.mpr ⟨j, by omega, by simp [zhas, h20, c25]⟩)]) dX4_hasClaim_51
          · refine lv_aload_n hx hb dX4_hasClaim_28 rfl (lv_at hl 0 rfl) ?_
            refine zq_get hx hb hts in_X4_hasClaim_X4 hown hK hP 0 rfl rfl 6 (by decide) (hts _ w_X4_hasClaim__fieldLink_RX4_23_WordsBesideModel_kind_I__cf4f2c) rfl dX4_hasClaim_29 ?_
            refine lv_iload hx hb dX4_hasClaim_32 (lv_at hl 4 rfl) ?_
            refine zq_ild hx hb hK hP 5 rfl j rfl (by omega) (by decide) dX4_hasClaim_34 ?_
            refine lv_iload_n hx hb dX4_hasClaim_35 rfl (lv_at hl 2 rfl) ?_
            refine lv_icmp_eq (tgt := 50) hx hb dX4_hasClaim_36 (by decide) (fun c36 => ?_) (fun c36 => ?_)
            · refine lv_iconst (v := (1 : Int32)) hx hb dX4_hasClaim_50 (by decide) ?_
              exact ret _ _ _ (Or.inr rfl) (by rw [if_pos (fb_ct_pos.mpr ⟨j, by omega, by simp [zhas, h20, c36]⟩)]) dX4_hasClaim_51
            · refine lv_aload_n hx hb dX4_hasClaim_39 rfl (lv_at hl 0 rfl) ?_
              refine zq_get hx hb hts in_X4_hasClaim_X4 hown hK hP 0 rfl rfl 6 (by decide) (hts _ w_X4_hasClaim__fieldLink_RX4_23_WordsBesideModel_kind_I__cf4f2c) rfl dX4_hasClaim_40 ?_
              refine lv_iload hx hb dX4_hasClaim_43 (lv_at hl 4 rfl) ?_
              refine zq_ild hx hb hK hP 5 rfl j rfl (by omega) (by decide) dX4_hasClaim_45 ?_
              refine lv_iload_n hx hb dX4_hasClaim_46 rfl (lv_at hl 3 rfl) ?_
              refine lv_icmp_ne (tgt := 52) hx hb dX4_hasClaim_47 (by decide) (fun c47 => ?_) (fun c47 => ?_)
              · refine lv_iinc (v := (nI (j + 1))) (lv' := [(4, .int (nI (j + 1))), (0, .ref (ad 0)), (1, .int (nI f)), (2, .int a1), (3, .int b1)]) hx hb dX4_hasClaim_52 hl (k := 4) rfl ((nI_succ _).symm) (by decide) rfl (fun ls hl => ?_)
                refine lv_goto (tgt := 3) hx hb dX4_hasClaim_55 (by decide) ?_
                exact ih3 (j + 1) ls (by omega) (by omega) (lt_s hno (by simp [zhas, c25, c36, c47])) (lv_sub hl [1, 2, 3, 4, 0] rfl)
              · refine lv_iconst (v := (1 : Int32)) hx hb dX4_hasClaim_50 (by decide) ?_
                exact ret _ _ _ (Or.inr rfl) (by rw [if_pos (fb_ct_pos.mpr ⟨j, by omega, by simp [zhas, h20, c47]⟩)]) dX4_hasClaim_51
  exact loop3 (n + 1) 0 ls (by omega) (by omega) (fun q hq => absurd hq (Nat.not_lt_zero q)) (lv_sub hl [1, 2, 3, 4, 0] rfl)
theorem w_X4_refused__constant_RX4_64_2147483648__c0c951 : (.constant RX4 64 (-2147483648) : Cond) ∈ wsX4_refused := by decide +kernel
set_option maxHeartbeats 4000000 in
set_option maxRecDepth 100000 in
theorem c_X4_refused (l : Launch) (D : va_G) (cI cZ cW cC : ClassId) (ad : Nat → Nat) (ln st gv oF kF fF sF bF mF hF : Nat → Int32) (kp cm m1 m2 : Int32) (f : Nat) (hf : f < 6) : zq_ro l D cI cZ cW cC yX4_refused wsX4_refused ({ frames := 2, cells := 0, slots := 0, locals := 45 } : Room) [.ref (ad 0), .int (nI f)] (mW cI cZ ad ln st gv oF kF fF sF bF mF hF kp cm m1 m2) (fun v => v = some (.int (nI (fb_ct (zref (zG gv 31) f) 256)))) := by
  refine zq_roI (own := RX4) (by decide) rfl rfl (Nat.le_of_ble_eq_true rfl) ?_
  intro p e s m below meth c Q ls hF hP hK hl ret
  obtain ⟨hx, hb, hml, hown, hts⟩ := hF
  have hl : lv_has ls 4 [(0, .ref (ad 0)), (1, .int (nI f))] := hl
  refine lv_iconst (v := (0 : Int32)) hx hb dX4_refused_0 (by decide) ?_
  refine lv_istore_n (lv' := [(2, .int (nI 0)), (0, .ref (ad 0)), (1, .int (nI f))]) hx hb dX4_refused_1 rfl hl (by decide) rfl (fun ls hl => ?_)
  refine lv_iconst (v := (0 : Int32)) hx hb dX4_refused_2 (by decide) ?_
  refine lv_istore_n (lv' := [(3, .int (nI 0)), (2, .int (nI 0)), (0, .ref (ad 0)), (1, .int (nI f))]) hx hb dX4_refused_3 rfl hl (by decide) rfl (fun ls hl => ?_)
  have loop4 : ∀ (fu4 : Nat) (j a : Nat) (ls : Array Slot), (256 - j) < fu4 → (j ≤ 256) → (a = fb_ct (zref (zG gv 31) f) j) → lv_has ls 4 [(0, .ref (ad 0)), (1, .int (nI f)), (2, .int (nI a)), (3, .int (nI j))] → W p l e ({ frames := 2, cells := 0, slots := 0, locals := 45 } : Room) s m ([.ref (ad 0), .int (nI f)] : List Value).toArray below meth c s.heap [] 0 0 Q (F0 m 4 ls []) := by
    intro fu4
    induction fu4 with
    | zero => intro _ _ _ hmu; exact absurd hmu (Nat.not_lt_zero _)
    | succ fu4 ih4 =>
      intro j a ls hmu4 hj ea hl
      refine lv_iload_n hx hb dX4_refused_4 rfl (lv_at hl 3 rfl) ?_
      refine lv_sipush (v := (nI 256)) hx hb dX4_refused_5 (by decide) ?_
      refine lv_icmp_ge (tgt := 38) hx hb dX4_refused_8 (by decide) (fun c8 => ?_) (fun c8 => ?_)
      · have h8 := zle c8
        refine lv_iload_n hx hb dX4_refused_38 rfl (lv_at hl 2 rfl) ?_
        exact ret _ _ _ (by rw [ea, show j = 256 by omega]) dX4_refused_39
      · have h8 := znle c8
        refine lv_iload_n hx hb dX4_refused_11 rfl (lv_at hl 2 rfl) ?_
        refine lv_aload_n hx hb dX4_refused_12 rfl (lv_at hl 0 rfl) ?_
        refine lv_bipush (v := (nI 31)) hx hb dX4_refused_13 (by decide) ?_
        refine lv_iload_n hx hb dX4_refused_15 rfl (lv_at hl 1 rfl) ?_
        refine lv_iload_n hx hb dX4_refused_16 rfl (lv_at hl 3 rfl) ?_
        refine zq_cV (rest := [.int (nI a)]) ⟨hx, hb, hml, hown, hts⟩ (c_X4_give l D cI cZ cW cC ad ln st gv oF kF fF sF bF mF hF kp cm m1 m2 31 f j (by omega) (by omega) (by omega)) (cwV 3 hts gX4_refused_X4_give rfl rfl rfl (by decide +kernel) ⟨Nat.le_of_ble_eq_true rfl, Nat.le_of_ble_eq_true rfl⟩) hK hP 4 0 rfl rfl rfl hl.1 rfl (Nat.le_of_ble_eq_true rfl) dX4_refused_17 ⟨Nat.le_of_ble_eq_true rfl, Nat.le_of_ble_eq_true rfl⟩ (fun v hv => ?_)
        obtain rfl := hv
        refine W.eq (g2 := F0 m 20 ls [.int (zG gv 31 (256 * f + j)), .int (nI a)]) rfl ?_
        refine lv_ldc (v := (-2147483648 : Int32)) hx hb hown (hts _ w_X4_refused__constant_RX4_64_2147483648__c0c951) dX4_refused_20 ?_
        refine lv_icmp_ne (tgt := 29) hx hb dX4_refused_22 (by decide) (fun c22 => ?_) (fun c22 => ?_)
        · refine lv_iconst (v := (0 : Int32)) hx hb dX4_refused_29 (by decide) ?_
          refine lv_iadd hx hb dX4_refused_30 ?_
          refine zq_te (y := (nI a)) (Int32.add_zero _) ?_
          refine lv_istore_n (lv' := [(2, .int (nI a)), (0, .ref (ad 0)), (1, .int (nI f)), (3, .int (nI j))]) hx hb dX4_refused_31 rfl hl (by decide) rfl (fun ls hl => ?_)
          refine lv_iinc (v := (nI (j + 1))) (lv' := [(3, .int (nI (j + 1))), (2, .int (nI a)), (0, .ref (ad 0)), (1, .int (nI f))]) hx hb dX4_refused_32 hl (k := 3) rfl ((nI_succ _).symm) (by decide) rfl (fun ls hl => ?_)
          refine lv_goto (tgt := 4) hx hb dX4_refused_35 (by decide) ?_
          exact ih4 (j + 1) a ls (by omega) (by omega) (by rw [fb_ct_succ, ← ea, if_neg (by simp [zref, c22]), Nat.add_zero]) (lv_sub hl [2, 3, 1, 0] rfl)
        · refine lv_iconst (v := (1 : Int32)) hx hb dX4_refused_25 (by decide) ?_
          refine lv_goto (tgt := 30) hx hb dX4_refused_26 (by decide) ?_
          refine lv_iadd hx hb dX4_refused_30 ?_
          refine zq_te (y := (nI (a + 1))) (nI_1 _) ?_
          refine lv_istore_n (lv' := [(2, .int (nI (a + 1))), (0, .ref (ad 0)), (1, .int (nI f)), (3, .int (nI j))]) hx hb dX4_refused_31 rfl hl (by decide) rfl (fun ls hl => ?_)
          refine lv_iinc (v := (nI (j + 1))) (lv' := [(3, .int (nI (j + 1))), (2, .int (nI (a + 1))), (0, .ref (ad 0)), (1, .int (nI f))]) hx hb dX4_refused_32 hl (k := 3) rfl ((nI_succ _).symm) (by decide) rfl (fun ls hl => ?_)
          refine lv_goto (tgt := 4) hx hb dX4_refused_35 (by decide) ?_
          exact ih4 (j + 1) (a + 1) ls (by omega) (by omega) (by rw [fb_ct_succ, ← ea, if_pos (by simp [zref, c22])]) (lv_sub hl [2, 3, 1, 0] rfl)
  exact loop4 (256 + 1) 0 0 ls (by omega) (by omega) rfl (lv_sub hl [2, 3, 1, 0] rfl)
