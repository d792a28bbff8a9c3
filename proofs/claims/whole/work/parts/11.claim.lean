/-! Claim: what denies a claim -/
def zn16 (G : Nat → Int32) (f r : Nat) : Int32 := if r + 16 < 256 then G (256 * f + (r + 16)) else zNO
def zgp (G : Nat → Int32) (p : Int32) (r : Nat) : Int32 := if p.toNatClampNeg < 6 ∧ ¬ p < 0 then G (256 * p.toNatClampNeg + r) else zNO
def zden (G : Nat → Int32) (f : Nat) (kd p q : Int32) (r : Nat) : Bool :=
  if kd = 0 then decide (¬ G (256 * f + r) = zNO ∧ (G (256 * f + r) < p ∨ q < G (256 * f + r)))
  else if kd = 1 then decide (G (256 * f + r) = zNO)
  else if kd = 2 then decide (¬ G (256 * f + r) = zNO ∧ ¬ zn16 G f r = zNO ∧ zn16 G f r < G (256 * f + r))
  else if kd = 3 then decide (¬ G (256 * f + r) = zNO ∧ 0 < p ∧ ¬ G (256 * f + r) - G (256 * f + r) / p * p = 0)
  else if kd = 4 then decide (¬ G (256 * f + r) = G (256 * f + (r % 16 * 16 + r / 16)))
  else if kd = 5 then decide (nI r = p ∧ ¬ G (256 * f + r) = q)
  else if kd = 6 then decide (G (256 * f + r) = zNO ↔ nI (r / 16) < p)
  else if kd = 7 then decide (¬ G (256 * f + r) = zgp G p r)
  else false
theorem zg_r16 {G : Nat → Int32} {f r : Nat} (hf : f < 6) (hr : r < 256) : zg G (nI f) (nI (r + 16)) = zn16 G f r := by
  unfold zn16
  by_cases h : r + 16 < 256
  · rw [if_pos h, zg_in hf h]
  · rw [if_neg h, zg_nr (zr_hi (nI_le (by omega) (by omega)))]
theorem zg_p {G : Nat → Int32} {p : Int32} {r : Nat} (hr : r < 256) : zg G p (nI r) = zgp G p r := by
  unfold zgp
  by_cases h : p < 0
  · rw [if_neg (fun q => q.2 h), zg_nf (zr_lo h)]
  · obtain ⟨j, hj, rfl⟩ := nI_of h
    rw [nI_clamp hj]
    by_cases h2 : j < 6
    · rw [if_pos ⟨h2, h⟩, zg_in h2 hr]
    · rw [if_neg (fun q => h2 q.1), zg_nf (zr_hi (nI_le (by omega) hj))]
/-- held: no run denies -/
def zheld (d : Nat → Bool) : Bool := decide (fb_ct d 256 = 0)
theorem zheld_first (d : Nat → Bool) : zheld d = decide (fa_first d 256 = 256) := by
  unfold zheld
  by_cases h : ∀ k, k < 256 → d k = false
  · rw [zfirst_none h, fb_ct_zero.mpr h]
    rfl
  · have h1 : ¬ fb_ct d 256 = 0 := fun q => h (fb_ct_zero.mp q)
    have h2 : ¬ fa_first d 256 = 256 := fun q => h (fun k hk => fa_first_no d 256 k (by omega))
    simp [h1, h2]
theorem zheld_y (d : Nat → Bool) (h : (if fa_first d 256 < 256 then nI (fa_first d 256) else -1) = -1) : zheld d = true := by
  have hl := fa_first_le d 256
  rw [zheld_first, decide_eq_true_eq]
  by_cases h2 : fa_first d 256 < 256
  · rw [if_pos h2] at h
    exact absurd (show nI (fa_first d 256) < 0 by rw [h]; decide) (nI_pos (by omega))
  · omega
theorem zheld_n (d : Nat → Bool) (h : ¬ (if fa_first d 256 < 256 then nI (fa_first d 256) else -1) = -1) : zheld d = false := by
  rw [zheld_first, decide_eq_false_iff_not]
  intro q
  exact h (if_neg (by omega))

theorem w_X0_isDeniedBy__constant_RX0_48_2147483648__262fa9 : (.constant RX0 48 (-2147483648) : Cond) ∈ wsX0_isDeniedBy := by decide +kernel
theorem w_X0_isDeniedBy__fieldLink_RX0_15_WordsBeside_Claim_kind_I__8744c5 : (.fieldLink RX0 15 "WordsBeside$Claim" "kind" "I" : Cond) ∈ wsX0_isDeniedBy := by decide +kernel
theorem w_X0_isDeniedBy__fieldLink_RX0_18_WordsBeside_Claim_p_I__01826a : (.fieldLink RX0 18 "WordsBeside$Claim" "p" "I" : Cond) ∈ wsX0_isDeniedBy := by decide +kernel
theorem w_X0_isDeniedBy__fieldLink_RX0_21_WordsBeside_Claim_q_I__6ecc41 : (.fieldLink RX0 21 "WordsBeside$Claim" "q" "I" : Cond) ∈ wsX0_isDeniedBy := by decide +kernel
theorem w_X0_isDeniedBy__fieldLink_RX0_9_WordsBeside_Claim_function_I__8f8278 : (.fieldLink RX0 9 "WordsBeside$Claim" "function" "I" : Cond) ∈ wsX0_isDeniedBy := by decide +kernel
theorem in_X0_isDeniedBy_X0 : ∀ w ∈ wsX00, w ∈ wsX0_isDeniedBy := fun _ h => List.mem_cons_of_mem _ (List.mem_append_left _ (List.mem_append_right _ h))
set_option maxHeartbeats 4000000 in
set_option maxRecDepth 100000 in
theorem c_X0_isDeniedBy (l : Launch) (D : va_G) (cI cZ cW cC : ClassId) (co w g : Nat) (G : Nat → Int32) (f : Nat) (hf : f < 6) (kd p1 q1 bn lh mk : Int32) (r : Nat) (hr : r < 256) : zq_ro l D cI cZ cW cC yX0_isDeniedBy wsX0_isDeniedBy ({ frames := 1, cells := 0, slots := 0, locals := 22 } : Room) [.ref co, .int (nI r), .ref w] [(co, .inr (0, [.int (nI f), .int kd, .int p1, .int q1, .int bn, .int lh, .int mk])), (w, .inr (2, [.ref g])), (g, .inl (cI, 1536, .inl G))] (fun v => v = some (.int (if zden G f kd p1 q1 r then 1 else 0))) := by
  refine zq_roZ (own := RX0) (by decide) rfl rfl (Nat.le_of_ble_eq_true rfl) ?_
  intro p e s m below meth c Q ls hF hP hK hl ret
  obtain ⟨hx, hb, hml, hown, hts⟩ := hF
  have hl : lv_has ls 8 [(0, .ref co), (1, .int (nI r)), (2, .ref w)] := hl
  refine lv_aload_n hx hb dX0_isDeniedBy_0 rfl (lv_at hl 2 rfl) ?_
  refine lv_aload_n hx hb dX0_isDeniedBy_1 rfl (lv_at hl 0 rfl) ?_
  refine zq_get hx hb hts in_X0_isDeniedBy_X0 hown hK hP 0 rfl rfl 0 (by decide) (hts _ w_X0_isDeniedBy__fieldLink_RX0_9_WordsBeside_Claim_function_I__8f8278) rfl dX0_isDeniedBy_2 ?_
  refine lv_iload_n hx hb dX0_isDeniedBy_5 rfl (lv_at hl 1 rfl) ?_
  refine zq_cV (rest := []) ⟨hx, hb, hml, hown, hts⟩ (cn_X2_given l D cI cZ cW cC w g G f r (by omega) (by omega)) (cwV 2 hts gX0_isDeniedBy_X2_given rfl rfl rfl (by decide +kernel) ⟨Nat.le_of_ble_eq_true rfl, Nat.le_of_ble_eq_true rfl⟩) hK (hP.sub [1, 2] rfl) 2 0 rfl rfl rfl hl.1 rfl (Nat.le_of_ble_eq_true rfl) dX0_isDeniedBy_6 ⟨Nat.le_of_ble_eq_true rfl, Nat.le_of_ble_eq_true rfl⟩ (fun v hv => ?_)
  obtain rfl := hv
  refine W.eq (g2 := F0 m 9 ls [.int (G (256 * f + r))]) rfl ?_
  refine lv_istore_n (lv' := [(3, .int (G (256 * f + r))), (0, .ref co), (1, .int (nI r)), (2, .ref w)]) hx hb dX0_isDeniedBy_9 rfl hl (by decide) rfl (fun ls hl => ?_)
  refine lv_iload_n hx hb dX0_isDeniedBy_10 rfl (lv_at hl 0 rfl) ?_
  refine lv_ldc (v := (-2147483648 : Int32)) hx hb hown (hts _ w_X0_isDeniedBy__constant_RX0_48_2147483648__262fa9) dX0_isDeniedBy_11 ?_
  refine lv_icmp_ne (tgt := 20) hx hb dX0_isDeniedBy_13 (by decide) (fun c13 => ?_) (fun c13 => ?_)
  · refine lv_iconst (v := (0 : Int32)) hx hb dX0_isDeniedBy_20 (by decide) ?_
    refine lv_istore (lv' := [(4, .int (0 : Int32)), (3, .int (G (256 * f + r))), (0, .ref co), (1, .int (nI r)), (2, .ref w)]) hx hb dX0_isDeniedBy_21 hl (by decide) rfl (fun ls hl => ?_)
    refine lv_iload_n hx hb dX0_isDeniedBy_23 rfl (lv_at hl 3 rfl) ?_
    refine lv_bipush (v := (nI 16)) hx hb dX0_isDeniedBy_24 (by decide) ?_
    refine lv_idiv hx hb dX0_isDeniedBy_26 (by decide) ?_
    refine zq_te (y := (nI (r / 16))) (pk_div (by omega) (by omega) (by omega)) ?_
    refine lv_istore (lv' := [(5, .int (nI (r / 16))), (4, .int (0 : Int32)), (3, .int (G (256 * f + r))), (0, .ref co), (1, .int (nI r)), (2, .ref w)]) hx hb dX0_isDeniedBy_27 hl (by decide) rfl (fun ls hl => ?_)
    refine lv_iload_n hx hb dX0_isDeniedBy_29 rfl (lv_at hl 4 rfl) ?_
    refine lv_bipush (v := (nI 16)) hx hb dX0_isDeniedBy_30 (by decide) ?_
    refine lv_irem hx hb dX0_isDeniedBy_32 (by decide) ?_
    refine zq_te (y := (nI (r % 16))) (pk_rem (by omega) (by omega) (by omega)) ?_
    refine lv_istore (lv' := [(6, .int (nI (r % 16))), (5, .int (nI (r / 16))), (4, .int (0 : Int32)), (3, .int (G (256 * f + r))), (0, .ref co), (1, .int (nI r)), (2, .ref w)]) hx hb dX0_isDeniedBy_33 hl (by decide) rfl (fun ls hl => ?_)
    refine lv_aload_n hx hb dX0_isDeniedBy_35 rfl (lv_at hl 4 rfl) ?_
    refine zq_get hx hb hts in_X0_isDeniedBy_X0 hown hK hP 0 rfl rfl 1 (by decide) (hts _ w_X0_isDeniedBy__fieldLink_RX0_15_WordsBeside_Claim_kind_I__8744c5) rfl dX0_isDeniedBy_36 ?_
    by_cases k39_0 : kd = (0 : Int32)
    · refine lv_tableIn (tgt := 84) hx hb dX0_isDeniedBy_39 (by rw [k39_0]; decide) (by rw [k39_0]; decide) (by rw [k39_0]; rfl) (by decide) ?_
      refine lv_iload hx hb dX0_isDeniedBy_84 (lv_at hl 2 rfl) ?_
      refine lv_if_ne (tgt := 109) hx hb dX0_isDeniedBy_86 (by decide) (fun c86 => absurd c86 (by decide)) (fun c86 => ?_)
      refine lv_iload_n hx hb dX0_isDeniedBy_89 rfl (lv_at hl 3 rfl) ?_
      refine lv_aload_n hx hb dX0_isDeniedBy_90 rfl (lv_at hl 4 rfl) ?_
      refine zq_get hx hb hts in_X0_isDeniedBy_X0 hown hK hP 0 rfl rfl 2 (by decide) (hts _ w_X0_isDeniedBy__fieldLink_RX0_18_WordsBeside_Claim_p_I__01826a) rfl dX0_isDeniedBy_91 ?_
      refine lv_icmp_lt (tgt := 105) hx hb dX0_isDeniedBy_94 (by decide) (fun c94 => ?_) (fun c94 => ?_)
      · refine lv_iconst (v := (1 : Int32)) hx hb dX0_isDeniedBy_105 (by decide) ?_
        refine lv_goto (tgt := 110) hx hb dX0_isDeniedBy_106 (by decide) ?_
        exact ret _ _ _ (Or.inr rfl) (by simp [zden, c13, k39_0, c94, Int32.not_le.mpr c94]) dX0_isDeniedBy_110
      · refine lv_iload_n hx hb dX0_isDeniedBy_97 rfl (lv_at hl 3 rfl) ?_
        refine lv_aload_n hx hb dX0_isDeniedBy_98 rfl (lv_at hl 4 rfl) ?_
        refine zq_get hx hb hts in_X0_isDeniedBy_X0 hown hK hP 0 rfl rfl 3 (by decide) (hts _ w_X0_isDeniedBy__fieldLink_RX0_21_WordsBeside_Claim_q_I__6ecc41) rfl dX0_isDeniedBy_99 ?_
        refine lv_icmp_le (tgt := 109) hx hb dX0_isDeniedBy_102 (by decide) (fun c102 => ?_) (fun c102 => ?_)
        · refine lv_iconst (v := (0 : Int32)) hx hb dX0_isDeniedBy_109 (by decide) ?_
          exact ret _ _ _ (Or.inl rfl) (by simp [zden, c13, k39_0, c94, Int32.not_lt.mp c94, c102, Int32.not_lt.mpr c102]) dX0_isDeniedBy_110
        · refine lv_iconst (v := (1 : Int32)) hx hb dX0_isDeniedBy_105 (by decide) ?_
          refine lv_goto (tgt := 110) hx hb dX0_isDeniedBy_106 (by decide) ?_
          exact ret _ _ _ (Or.inr rfl) (by simp [zden, c13, k39_0, c94, Int32.not_lt.mp c94, c102, Int32.not_le.mp c102]) dX0_isDeniedBy_110
    · by_cases k39_1 : kd = (1 : Int32)
      · refine lv_tableIn (tgt := 111) hx hb dX0_isDeniedBy_39 (by rw [k39_1]; decide) (by rw [k39_1]; decide) (by rw [k39_1]; rfl) (by decide) ?_
        refine lv_iload hx hb dX0_isDeniedBy_111 (lv_at hl 2 rfl) ?_
        exact ret _ _ _ (Or.inl rfl) (by simp [zden, c13, k39_1]) dX0_isDeniedBy_113
      · by_cases k39_2 : kd = (2 : Int32)
        · refine lv_tableIn (tgt := 114) hx hb dX0_isDeniedBy_39 (by rw [k39_2]; decide) (by rw [k39_2]; decide) (by rw [k39_2]; rfl) (by decide) ?_
          refine lv_aload_n hx hb dX0_isDeniedBy_114 rfl (lv_at hl 6 rfl) ?_
          refine lv_aload_n hx hb dX0_isDeniedBy_115 rfl (lv_at hl 4 rfl) ?_
          refine zq_get hx hb hts in_X0_isDeniedBy_X0 hown hK hP 0 rfl rfl 0 (by decide) (hts _ w_X0_isDeniedBy__fieldLink_RX0_9_WordsBeside_Claim_function_I__8f8278) rfl dX0_isDeniedBy_116 ?_
          refine lv_iload_n hx hb dX0_isDeniedBy_119 rfl (lv_at hl 5 rfl) ?_
          refine lv_bipush (v := (nI 16)) hx hb dX0_isDeniedBy_120 (by decide) ?_
          refine lv_iadd hx hb dX0_isDeniedBy_122 ?_
          refine zq_te (y := (nI (r + 16))) (nI_add _ _) ?_
          refine zq_cV (rest := []) ⟨hx, hb, hml, hown, hts⟩ (zq_ro_mono (c_X2_given l D cI cZ cW cC w g G (nI f) (nI (r + 16))) (fun v h => h.trans (congrArg (fun z => some (Value.int z)) (zg_r16 hf hr)))) (cwV 2 hts gX0_isDeniedBy_X2_given rfl rfl rfl (by decide +kernel) ⟨Nat.le_of_ble_eq_true rfl, Nat.le_of_ble_eq_true rfl⟩) hK (hP.sub [1, 2] rfl) 2 0 rfl rfl rfl hl.1 rfl (Nat.le_of_ble_eq_true rfl) dX0_isDeniedBy_123 ⟨Nat.le_of_ble_eq_true rfl, Nat.le_of_ble_eq_true rfl⟩ (fun v hv => ?_)
          obtain rfl := hv
          refine W.eq (g2 := F0 m 126 ls [.int (zn16 G f r)]) rfl ?_
          refine lv_istore (lv' := [(7, .int (zn16 G f r)), (6, .int (nI (r % 16))), (5, .int (nI (r / 16))), (4, .int (0 : Int32)), (3, .int (G (256 * f + r))), (0, .ref co), (1, .int (nI r)), (2, .ref w)]) hx hb dX0_isDeniedBy_126 hl (by decide) rfl (fun ls hl => ?_)
          refine lv_iload hx hb dX0_isDeniedBy_128 (lv_at hl 3 rfl) ?_
          refine lv_if_ne (tgt := 150) hx hb dX0_isDeniedBy_130 (by decide) (fun c130 => absurd c130 (by decide)) (fun c130 => ?_)
          refine lv_iload hx hb dX0_isDeniedBy_133 (lv_at hl 0 rfl) ?_
          refine lv_ldc (v := (-2147483648 : Int32)) hx hb hown (hts _ w_X0_isDeniedBy__constant_RX0_48_2147483648__262fa9) dX0_isDeniedBy_135 ?_
          refine lv_icmp_eq (tgt := 150) hx hb dX0_isDeniedBy_137 (by decide) (fun c137 => ?_) (fun c137 => ?_)
          · refine lv_iconst (v := (0 : Int32)) hx hb dX0_isDeniedBy_150 (by decide) ?_
            exact ret _ _ _ (Or.inl rfl) (by simp [zden, c13, k39_2, c137]) dX0_isDeniedBy_151
          · refine lv_iload hx hb dX0_isDeniedBy_140 (lv_at hl 0 rfl) ?_
            refine lv_iload_n hx hb dX0_isDeniedBy_142 rfl (lv_at hl 4 rfl) ?_
            refine lv_icmp_ge (tgt := 150) hx hb dX0_isDeniedBy_143 (by decide) (fun c143 => ?_) (fun c143 => ?_)
            · refine lv_iconst (v := (0 : Int32)) hx hb dX0_isDeniedBy_150 (by decide) ?_
              exact ret _ _ _ (Or.inl rfl) (by simp [zden, c13, k39_2, c137, c143, Int32.not_lt.mpr c143]) dX0_isDeniedBy_151
            · refine lv_iconst (v := (1 : Int32)) hx hb dX0_isDeniedBy_146 (by decide) ?_
              refine lv_goto (tgt := 151) hx hb dX0_isDeniedBy_147 (by decide) ?_
              exact ret _ _ _ (Or.inr rfl) (by simp [zden, c13, k39_2, c137, c143, Int32.not_le.mp c143]) dX0_isDeniedBy_151
        · by_cases k39_3 : kd = (3 : Int32)
          · refine lv_tableIn (tgt := 152) hx hb dX0_isDeniedBy_39 (by rw [k39_3]; decide) (by rw [k39_3]; decide) (by rw [k39_3]; rfl) (by decide) ?_
            refine lv_iload hx hb dX0_isDeniedBy_152 (lv_at hl 2 rfl) ?_
            refine lv_if_ne (tgt := 177) hx hb dX0_isDeniedBy_154 (by decide) (fun c154 => absurd c154 (by decide)) (fun c154 => ?_)
            refine lv_aload_n hx hb dX0_isDeniedBy_157 rfl (lv_at hl 4 rfl) ?_
            refine zq_get hx hb hts in_X0_isDeniedBy_X0 hown hK hP 0 rfl rfl 2 (by decide) (hts _ w_X0_isDeniedBy__fieldLink_RX0_18_WordsBeside_Claim_p_I__01826a) rfl dX0_isDeniedBy_158 ?_
            refine lv_if_le (tgt := 177) hx hb dX0_isDeniedBy_161 (by decide) (fun c161 => ?_) (fun c161 => ?_)
            · refine lv_iconst (v := (0 : Int32)) hx hb dX0_isDeniedBy_177 (by decide) ?_
              exact ret _ _ _ (Or.inl rfl) (by simp [zden, c13, k39_3, c161, Int32.not_lt.mpr c161]) dX0_isDeniedBy_178
            · refine lv_iload_n hx hb dX0_isDeniedBy_164 rfl (lv_at hl 3 rfl) ?_
              refine lv_aload_n hx hb dX0_isDeniedBy_165 rfl (lv_at hl 4 rfl) ?_
              refine zq_get hx hb hts in_X0_isDeniedBy_X0 hown hK hP 0 rfl rfl 2 (by decide) (hts _ w_X0_isDeniedBy__fieldLink_RX0_18_WordsBeside_Claim_p_I__01826a) rfl dX0_isDeniedBy_166 ?_
              refine lv_irem hx hb dX0_isDeniedBy_169 (fun h => c161 (by rw [h]; decide)) ?_
              refine lv_if_eq (tgt := 177) hx hb dX0_isDeniedBy_170 (by decide) (fun c170 => ?_) (fun c170 => ?_)
              · refine lv_iconst (v := (0 : Int32)) hx hb dX0_isDeniedBy_177 (by decide) ?_
                exact ret _ _ _ (Or.inl rfl) (by simp [zden, c13, k39_3, c161, Int32.not_le.mp c161, c170]) dX0_isDeniedBy_178
              · refine lv_iconst (v := (1 : Int32)) hx hb dX0_isDeniedBy_173 (by decide) ?_
                refine lv_goto (tgt := 178) hx hb dX0_isDeniedBy_174 (by decide) ?_
                exact ret _ _ _ (Or.inr rfl) (by simp [zden, c13, k39_3, c161, Int32.not_le.mp c161, c170]) dX0_isDeniedBy_178
          · by_cases k39_4 : kd = (4 : Int32)
            · refine lv_tableIn (tgt := 179) hx hb dX0_isDeniedBy_39 (by rw [k39_4]; decide) (by rw [k39_4]; decide) (by rw [k39_4]; rfl) (by decide) ?_
              refine lv_iload_n hx hb dX0_isDeniedBy_179 rfl (lv_at hl 3 rfl) ?_
              refine lv_aload_n hx hb dX0_isDeniedBy_180 rfl (lv_at hl 6 rfl) ?_
              refine lv_aload_n hx hb dX0_isDeniedBy_181 rfl (lv_at hl 4 rfl) ?_
              refine zq_get hx hb hts in_X0_isDeniedBy_X0 hown hK hP 0 rfl rfl 0 (by decide) (hts _ w_X0_isDeniedBy__fieldLink_RX0_9_WordsBeside_Claim_function_I__8f8278) rfl dX0_isDeniedBy_182 ?_
              refine lv_iload hx hb dX0_isDeniedBy_185 (lv_at hl 0 rfl) ?_
              refine lv_bipush (v := (nI 16)) hx hb dX0_isDeniedBy_187 (by decide) ?_
              refine lv_imul hx hb dX0_isDeniedBy_189 ?_
              refine zq_te (y := (nI (r % 16 * 16))) (pk_mul _ _) ?_
              refine lv_iload hx hb dX0_isDeniedBy_190 (lv_at hl 1 rfl) ?_
              refine lv_iadd hx hb dX0_isDeniedBy_192 ?_
              refine zq_te (y := (nI (r % 16 * 16 + r / 16))) (nI_add _ _) ?_
              refine zq_cV (rest := [.int (G (256 * f + r))]) ⟨hx, hb, hml, hown, hts⟩ (cn_X2_given l D cI cZ cW cC w g G f (r % 16 * 16 + r / 16) (by omega) (by omega)) (cwV 2 hts gX0_isDeniedBy_X2_given rfl rfl rfl (by decide +kernel) ⟨Nat.le_of_ble_eq_true rfl, Nat.le_of_ble_eq_true rfl⟩) hK (hP.sub [1, 2] rfl) 2 0 rfl rfl rfl hl.1 rfl (Nat.le_of_ble_eq_true rfl) dX0_isDeniedBy_193 ⟨Nat.le_of_ble_eq_true rfl, Nat.le_of_ble_eq_true rfl⟩ (fun v hv => ?_)
              obtain rfl := hv
              refine W.eq (g2 := F0 m 196 ls [.int (G (256 * f + (r % 16 * 16 + r / 16))), .int (G (256 * f + r))]) rfl ?_
              refine lv_icmp_eq (tgt := 203) hx hb dX0_isDeniedBy_196 (by decide) (fun c196 => ?_) (fun c196 => ?_)
              · refine lv_iconst (v := (0 : Int32)) hx hb dX0_isDeniedBy_203 (by decide) ?_
                exact ret _ _ _ (Or.inl rfl) (by simp [zden, k39_4, c196]) dX0_isDeniedBy_204
              · refine lv_iconst (v := (1 : Int32)) hx hb dX0_isDeniedBy_199 (by decide) ?_
                refine lv_goto (tgt := 204) hx hb dX0_isDeniedBy_200 (by decide) ?_
                exact ret _ _ _ (Or.inr rfl) (by simp [zden, k39_4, c196]) dX0_isDeniedBy_204
            · by_cases k39_5 : kd = (5 : Int32)
              · refine lv_tableIn (tgt := 205) hx hb dX0_isDeniedBy_39 (by rw [k39_5]; decide) (by rw [k39_5]; decide) (by rw [k39_5]; rfl) (by decide) ?_
                refine lv_iload_n hx hb dX0_isDeniedBy_205 rfl (lv_at hl 5 rfl) ?_
                refine lv_aload_n hx hb dX0_isDeniedBy_206 rfl (lv_at hl 4 rfl) ?_
                refine zq_get hx hb hts in_X0_isDeniedBy_X0 hown hK hP 0 rfl rfl 2 (by decide) (hts _ w_X0_isDeniedBy__fieldLink_RX0_18_WordsBeside_Claim_p_I__01826a) rfl dX0_isDeniedBy_207 ?_
                refine lv_icmp_ne (tgt := 225) hx hb dX0_isDeniedBy_210 (by decide) (fun c210 => ?_) (fun c210 => ?_)
                · refine lv_iconst (v := (0 : Int32)) hx hb dX0_isDeniedBy_225 (by decide) ?_
                  exact ret _ _ _ (Or.inl rfl) (by simp [zden, k39_5, c210]) dX0_isDeniedBy_226
                · refine lv_iload_n hx hb dX0_isDeniedBy_213 rfl (lv_at hl 3 rfl) ?_
                  refine lv_aload_n hx hb dX0_isDeniedBy_214 rfl (lv_at hl 4 rfl) ?_
                  refine zq_get hx hb hts in_X0_isDeniedBy_X0 hown hK hP 0 rfl rfl 3 (by decide) (hts _ w_X0_isDeniedBy__fieldLink_RX0_21_WordsBeside_Claim_q_I__6ecc41) rfl dX0_isDeniedBy_215 ?_
                  refine lv_icmp_eq (tgt := 225) hx hb dX0_isDeniedBy_218 (by decide) (fun c218 => ?_) (fun c218 => ?_)
                  · refine lv_iconst (v := (0 : Int32)) hx hb dX0_isDeniedBy_225 (by decide) ?_
                    exact ret _ _ _ (Or.inl rfl) (by simp [zden, k39_5, c210, c218]) dX0_isDeniedBy_226
                  · refine lv_iconst (v := (1 : Int32)) hx hb dX0_isDeniedBy_221 (by decide) ?_
                    refine lv_goto (tgt := 226) hx hb dX0_isDeniedBy_222 (by decide) ?_
                    exact ret _ _ _ (Or.inr rfl) (by simp [zden, k39_5, c210, c218]) dX0_isDeniedBy_226
              · by_cases k39_6 : kd = (6 : Int32)
                · refine lv_tableIn (tgt := 227) hx hb dX0_isDeniedBy_39 (by rw [k39_6]; decide) (by rw [k39_6]; decide) (by rw [k39_6]; rfl) (by decide) ?_
                  refine lv_iload hx hb dX0_isDeniedBy_227 (lv_at hl 2 rfl) ?_
                  refine lv_iload hx hb dX0_isDeniedBy_229 (lv_at hl 1 rfl) ?_
                  refine lv_aload_n hx hb dX0_isDeniedBy_231 rfl (lv_at hl 4 rfl) ?_
                  refine zq_get hx hb hts in_X0_isDeniedBy_X0 hown hK hP 0 rfl rfl 2 (by decide) (hts _ w_X0_isDeniedBy__fieldLink_RX0_18_WordsBeside_Claim_p_I__01826a) rfl dX0_isDeniedBy_232 ?_
                  refine lv_icmp_ge (tgt := 242) hx hb dX0_isDeniedBy_235 (by decide) (fun c235 => ?_) (fun c235 => ?_)
                  · refine lv_iconst (v := (0 : Int32)) hx hb dX0_isDeniedBy_242 (by decide) ?_
                    refine lv_icmp_ne (tgt := 250) hx hb dX0_isDeniedBy_243 (by decide) (fun c243 => absurd c243 (by decide)) (fun c243 => ?_)
                    refine lv_iconst (v := (1 : Int32)) hx hb dX0_isDeniedBy_246 (by decide) ?_
                    refine lv_goto (tgt := 251) hx hb dX0_isDeniedBy_247 (by decide) ?_
                    exact ret _ _ _ (Or.inr rfl) (by simp [zden, c13, k39_6, c235, Int32.not_lt.mpr c235]) dX0_isDeniedBy_251
                  · refine lv_iconst (v := (1 : Int32)) hx hb dX0_isDeniedBy_238 (by decide) ?_
                    refine lv_goto (tgt := 243) hx hb dX0_isDeniedBy_239 (by decide) ?_
                    refine lv_icmp_ne (tgt := 250) hx hb dX0_isDeniedBy_243 (by decide) (fun c243 => ?_) (fun c243 => absurd c243 (by decide))
                    refine lv_iconst (v := (0 : Int32)) hx hb dX0_isDeniedBy_250 (by decide) ?_
                    exact ret _ _ _ (Or.inl rfl) (by simp [zden, c13, k39_6, c235, Int32.not_le.mp c235]) dX0_isDeniedBy_251
                · by_cases k39_7 : kd = (7 : Int32)
                  · refine lv_tableIn (tgt := 252) hx hb dX0_isDeniedBy_39 (by rw [k39_7]; decide) (by rw [k39_7]; decide) (by rw [k39_7]; rfl) (by decide) ?_
                    refine lv_iload_n hx hb dX0_isDeniedBy_252 rfl (lv_at hl 3 rfl) ?_
                    refine lv_aload_n hx hb dX0_isDeniedBy_253 rfl (lv_at hl 6 rfl) ?_
                    refine lv_aload_n hx hb dX0_isDeniedBy_254 rfl (lv_at hl 4 rfl) ?_
                    refine zq_get hx hb hts in_X0_isDeniedBy_X0 hown hK hP 0 rfl rfl 2 (by decide) (hts _ w_X0_isDeniedBy__fieldLink_RX0_18_WordsBeside_Claim_p_I__01826a) rfl dX0_isDeniedBy_255 ?_
                    refine lv_iload_n hx hb dX0_isDeniedBy_258 rfl (lv_at hl 5 rfl) ?_
                    refine zq_cV (rest := [.int (G (256 * f + r))]) ⟨hx, hb, hml, hown, hts⟩ (zq_ro_mono (c_X2_given l D cI cZ cW cC w g G p1 (nI r)) (fun v h => h.trans (congrArg (fun z => some (Value.int z)) (zg_p hr)))) (cwV 2 hts gX0_isDeniedBy_X2_given rfl rfl rfl (by decide +kernel) ⟨Nat.le_of_ble_eq_true rfl, Nat.le_of_ble_eq_true rfl⟩) hK (hP.sub [1, 2] rfl) 2 0 rfl rfl rfl hl.1 rfl (Nat.le_of_ble_eq_true rfl) dX0_isDeniedBy_259 ⟨Nat.le_of_ble_eq_true rfl, Nat.le_of_ble_eq_true rfl⟩ (fun v hv => ?_)
                    obtain rfl := hv
                    refine W.eq (g2 := F0 m 262 ls [.int (zgp G p1 r), .int (G (256 * f + r))]) rfl ?_
                    refine lv_icmp_eq (tgt := 269) hx hb dX0_isDeniedBy_262 (by decide) (fun c262 => ?_) (fun c262 => ?_)
                    · refine lv_iconst (v := (0 : Int32)) hx hb dX0_isDeniedBy_269 (by decide) ?_
                      exact ret _ _ _ (Or.inl rfl) (by simp [zden, k39_7, c262]) dX0_isDeniedBy_270
                    · refine lv_iconst (v := (1 : Int32)) hx hb dX0_isDeniedBy_265 (by decide) ?_
                      refine lv_goto (tgt := 270) hx hb dX0_isDeniedBy_266 (by decide) ?_
                      exact ret _ _ _ (Or.inr rfl) (by simp [zden, k39_7, c262]) dX0_isDeniedBy_270
                  · refine lv_tableOut (tgt := 271) hx hb dX0_isDeniedBy_39 (by have k39_0T := lv_neT k39_0 (a := 0) rfl; have k39_1T := lv_neT k39_1 (a := 1) rfl; have k39_2T := lv_neT k39_2 (a := 2) rfl; have k39_3T := lv_neT k39_3 (a := 3) rfl; have k39_4T := lv_neT k39_4 (a := 4) rfl; have k39_5T := lv_neT k39_5 (a := 5) rfl; have k39_6T := lv_neT k39_6 (a := 6) rfl; have k39_7T := lv_neT k39_7 (a := 7) rfl; omega) (by decide) ?_
                    refine lv_iconst (v := (0 : Int32)) hx hb dX0_isDeniedBy_271 (by decide) ?_
                    exact ret _ _ _ (Or.inl rfl) (by simp [zden, k39_0, k39_1, k39_2, k39_3, k39_4, k39_5, k39_6, k39_7]) dX0_isDeniedBy_272
  · refine lv_iconst (v := (1 : Int32)) hx hb dX0_isDeniedBy_16 (by decide) ?_
    refine lv_goto (tgt := 21) hx hb dX0_isDeniedBy_17 (by decide) ?_
    refine lv_istore (lv' := [(4, .int (1 : Int32)), (3, .int (G (256 * f + r))), (0, .ref co), (1, .int (nI r)), (2, .ref w)]) hx hb dX0_isDeniedBy_21 hl (by decide) rfl (fun ls hl => ?_)
    refine lv_iload_n hx hb dX0_isDeniedBy_23 rfl (lv_at hl 3 rfl) ?_
    refine lv_bipush (v := (nI 16)) hx hb dX0_isDeniedBy_24 (by decide) ?_
    refine lv_idiv hx hb dX0_isDeniedBy_26 (by decide) ?_
    refine zq_te (y := (nI (r / 16))) (pk_div (by omega) (by omega) (by omega)) ?_
    refine lv_istore (lv' := [(5, .int (nI (r / 16))), (4, .int (1 : Int32)), (3, .int (G (256 * f + r))), (0, .ref co), (1, .int (nI r)), (2, .ref w)]) hx hb dX0_isDeniedBy_27 hl (by decide) rfl (fun ls hl => ?_)
    refine lv_iload_n hx hb dX0_isDeniedBy_29 rfl (lv_at hl 4 rfl) ?_
    refine lv_bipush (v := (nI 16)) hx hb dX0_isDeniedBy_30 (by decide) ?_
    refine lv_irem hx hb dX0_isDeniedBy_32 (by decide) ?_
    refine zq_te (y := (nI (r % 16))) (pk_rem (by omega) (by omega) (by omega)) ?_
    refine lv_istore (lv' := [(6, .int (nI (r % 16))), (5, .int (nI (r / 16))), (4, .int (1 : Int32)), (3, .int (G (256 * f + r))), (0, .ref co), (1, .int (nI r)), (2, .ref w)]) hx hb dX0_isDeniedBy_33 hl (by decide) rfl (fun ls hl => ?_)
    refine lv_aload_n hx hb dX0_isDeniedBy_35 rfl (lv_at hl 4 rfl) ?_
    refine zq_get hx hb hts in_X0_isDeniedBy_X0 hown hK hP 0 rfl rfl 1 (by decide) (hts _ w_X0_isDeniedBy__fieldLink_RX0_15_WordsBeside_Claim_kind_I__8744c5) rfl dX0_isDeniedBy_36 ?_
    by_cases k39_0 : kd = (0 : Int32)
    · refine lv_tableIn (tgt := 84) hx hb dX0_isDeniedBy_39 (by rw [k39_0]; decide) (by rw [k39_0]; decide) (by rw [k39_0]; rfl) (by decide) ?_
      refine lv_iload hx hb dX0_isDeniedBy_84 (lv_at hl 2 rfl) ?_
      refine lv_if_ne (tgt := 109) hx hb dX0_isDeniedBy_86 (by decide) (fun c86 => ?_) (fun c86 => absurd c86 (by decide))
      refine lv_iconst (v := (0 : Int32)) hx hb dX0_isDeniedBy_109 (by decide) ?_
      exact ret _ _ _ (Or.inl rfl) (by simp [zden, c13, k39_0]) dX0_isDeniedBy_110
    · by_cases k39_1 : kd = (1 : Int32)
      · refine lv_tableIn (tgt := 111) hx hb dX0_isDeniedBy_39 (by rw [k39_1]; decide) (by rw [k39_1]; decide) (by rw [k39_1]; rfl) (by decide) ?_
        refine lv_iload hx hb dX0_isDeniedBy_111 (lv_at hl 2 rfl) ?_
        exact ret _ _ _ (Or.inr rfl) (by simp [zden, c13, k39_1]) dX0_isDeniedBy_113
      · by_cases k39_2 : kd = (2 : Int32)
        · refine lv_tableIn (tgt := 114) hx hb dX0_isDeniedBy_39 (by rw [k39_2]; decide) (by rw [k39_2]; decide) (by rw [k39_2]; rfl) (by decide) ?_
          refine lv_aload_n hx hb dX0_isDeniedBy_114 rfl (lv_at hl 6 rfl) ?_
          refine lv_aload_n hx hb dX0_isDeniedBy_115 rfl (lv_at hl 4 rfl) ?_
          refine zq_get hx hb hts in_X0_isDeniedBy_X0 hown hK hP 0 rfl rfl 0 (by decide) (hts _ w_X0_isDeniedBy__fieldLink_RX0_9_WordsBeside_Claim_function_I__8f8278) rfl dX0_isDeniedBy_116 ?_
          refine lv_iload_n hx hb dX0_isDeniedBy_119 rfl (lv_at hl 5 rfl) ?_
          refine lv_bipush (v := (nI 16)) hx hb dX0_isDeniedBy_120 (by decide) ?_
          refine lv_iadd hx hb dX0_isDeniedBy_122 ?_
          refine zq_te (y := (nI (r + 16))) (nI_add _ _) ?_
          refine zq_cV (rest := []) ⟨hx, hb, hml, hown, hts⟩ (zq_ro_mono (c_X2_given l D cI cZ cW cC w g G (nI f) (nI (r + 16))) (fun v h => h.trans (congrArg (fun z => some (Value.int z)) (zg_r16 hf hr)))) (cwV 2 hts gX0_isDeniedBy_X2_given rfl rfl rfl (by decide +kernel) ⟨Nat.le_of_ble_eq_true rfl, Nat.le_of_ble_eq_true rfl⟩) hK (hP.sub [1, 2] rfl) 2 0 rfl rfl rfl hl.1 rfl (Nat.le_of_ble_eq_true rfl) dX0_isDeniedBy_123 ⟨Nat.le_of_ble_eq_true rfl, Nat.le_of_ble_eq_true rfl⟩ (fun v hv => ?_)
          obtain rfl := hv
          refine W.eq (g2 := F0 m 126 ls [.int (zn16 G f r)]) rfl ?_
          refine lv_istore (lv' := [(7, .int (zn16 G f r)), (6, .int (nI (r % 16))), (5, .int (nI (r / 16))), (4, .int (1 : Int32)), (3, .int (G (256 * f + r))), (0, .ref co), (1, .int (nI r)), (2, .ref w)]) hx hb dX0_isDeniedBy_126 hl (by decide) rfl (fun ls hl => ?_)
          refine lv_iload hx hb dX0_isDeniedBy_128 (lv_at hl 3 rfl) ?_
          refine lv_if_ne (tgt := 150) hx hb dX0_isDeniedBy_130 (by decide) (fun c130 => ?_) (fun c130 => absurd c130 (by decide))
          refine lv_iconst (v := (0 : Int32)) hx hb dX0_isDeniedBy_150 (by decide) ?_
          exact ret _ _ _ (Or.inl rfl) (by simp [zden, c13, k39_2]) dX0_isDeniedBy_151
        · by_cases k39_3 : kd = (3 : Int32)
          · refine lv_tableIn (tgt := 152) hx hb dX0_isDeniedBy_39 (by rw [k39_3]; decide) (by rw [k39_3]; decide) (by rw [k39_3]; rfl) (by decide) ?_
            refine lv_iload hx hb dX0_isDeniedBy_152 (lv_at hl 2 rfl) ?_
            refine lv_if_ne (tgt := 177) hx hb dX0_isDeniedBy_154 (by decide) (fun c154 => ?_) (fun c154 => absurd c154 (by decide))
            refine lv_iconst (v := (0 : Int32)) hx hb dX0_isDeniedBy_177 (by decide) ?_
            exact ret _ _ _ (Or.inl rfl) (by simp [zden, c13, k39_3]) dX0_isDeniedBy_178
          · by_cases k39_4 : kd = (4 : Int32)
            · refine lv_tableIn (tgt := 179) hx hb dX0_isDeniedBy_39 (by rw [k39_4]; decide) (by rw [k39_4]; decide) (by rw [k39_4]; rfl) (by decide) ?_
              refine lv_iload_n hx hb dX0_isDeniedBy_179 rfl (lv_at hl 3 rfl) ?_
              refine lv_aload_n hx hb dX0_isDeniedBy_180 rfl (lv_at hl 6 rfl) ?_
              refine lv_aload_n hx hb dX0_isDeniedBy_181 rfl (lv_at hl 4 rfl) ?_
              refine zq_get hx hb hts in_X0_isDeniedBy_X0 hown hK hP 0 rfl rfl 0 (by decide) (hts _ w_X0_isDeniedBy__fieldLink_RX0_9_WordsBeside_Claim_function_I__8f8278) rfl dX0_isDeniedBy_182 ?_
              refine lv_iload hx hb dX0_isDeniedBy_185 (lv_at hl 0 rfl) ?_
              refine lv_bipush (v := (nI 16)) hx hb dX0_isDeniedBy_187 (by decide) ?_
              refine lv_imul hx hb dX0_isDeniedBy_189 ?_
              refine zq_te (y := (nI (r % 16 * 16))) (pk_mul _ _) ?_
              refine lv_iload hx hb dX0_isDeniedBy_190 (lv_at hl 1 rfl) ?_
              refine lv_iadd hx hb dX0_isDeniedBy_192 ?_
              refine zq_te (y := (nI (r % 16 * 16 + r / 16))) (nI_add _ _) ?_
              refine zq_cV (rest := [.int (G (256 * f + r))]) ⟨hx, hb, hml, hown, hts⟩ (cn_X2_given l D cI cZ cW cC w g G f (r % 16 * 16 + r / 16) (by omega) (by omega)) (cwV 2 hts gX0_isDeniedBy_X2_given rfl rfl rfl (by decide +kernel) ⟨Nat.le_of_ble_eq_true rfl, Nat.le_of_ble_eq_true rfl⟩) hK (hP.sub [1, 2] rfl) 2 0 rfl rfl rfl hl.1 rfl (Nat.le_of_ble_eq_true rfl) dX0_isDeniedBy_193 ⟨Nat.le_of_ble_eq_true rfl, Nat.le_of_ble_eq_true rfl⟩ (fun v hv => ?_)
              obtain rfl := hv
              refine W.eq (g2 := F0 m 196 ls [.int (G (256 * f + (r % 16 * 16 + r / 16))), .int (G (256 * f + r))]) rfl ?_
              refine lv_icmp_eq (tgt := 203) hx hb dX0_isDeniedBy_196 (by decide) (fun c196 => ?_) (fun c196 => ?_)
              · refine lv_iconst (v := (0 : Int32)) hx hb dX0_isDeniedBy_203 (by decide) ?_
                exact ret _ _ _ (Or.inl rfl) (by simp [zden, k39_4, c196]) dX0_isDeniedBy_204
              · refine lv_iconst (v := (1 : Int32)) hx hb dX0_isDeniedBy_199 (by decide) ?_
                refine lv_goto (tgt := 204) hx hb dX0_isDeniedBy_200 (by decide) ?_
                exact ret _ _ _ (Or.inr rfl) (by simp [zden, k39_4, c196]) dX0_isDeniedBy_204
            · by_cases k39_5 : kd = (5 : Int32)
              · refine lv_tableIn (tgt := 205) hx hb dX0_isDeniedBy_39 (by rw [k39_5]; decide) (by rw [k39_5]; decide) (by rw [k39_5]; rfl) (by decide) ?_
                refine lv_iload_n hx hb dX0_isDeniedBy_205 rfl (lv_at hl 5 rfl) ?_
                refine lv_aload_n hx hb dX0_isDeniedBy_206 rfl (lv_at hl 4 rfl) ?_
                refine zq_get hx hb hts in_X0_isDeniedBy_X0 hown hK hP 0 rfl rfl 2 (by decide) (hts _ w_X0_isDeniedBy__fieldLink_RX0_18_WordsBeside_Claim_p_I__01826a) rfl dX0_isDeniedBy_207 ?_
                refine lv_icmp_ne (tgt := 225) hx hb dX0_isDeniedBy_210 (by decide) (fun c210 => ?_) (fun c210 => ?_)
                · refine lv_iconst (v := (0 : Int32)) hx hb dX0_isDeniedBy_225 (by decide) ?_
                  exact ret _ _ _ (Or.inl rfl) (by simp [zden, k39_5, c210]) dX0_isDeniedBy_226
                · refine lv_iload_n hx hb dX0_isDeniedBy_213 rfl (lv_at hl 3 rfl) ?_
                  refine lv_aload_n hx hb dX0_isDeniedBy_214 rfl (lv_at hl 4 rfl) ?_
                  refine zq_get hx hb hts in_X0_isDeniedBy_X0 hown hK hP 0 rfl rfl 3 (by decide) (hts _ w_X0_isDeniedBy__fieldLink_RX0_21_WordsBeside_Claim_q_I__6ecc41) rfl dX0_isDeniedBy_215 ?_
                  refine lv_icmp_eq (tgt := 225) hx hb dX0_isDeniedBy_218 (by decide) (fun c218 => ?_) (fun c218 => ?_)
                  · refine lv_iconst (v := (0 : Int32)) hx hb dX0_isDeniedBy_225 (by decide) ?_
                    exact ret _ _ _ (Or.inl rfl) (by simp [zden, k39_5, c210, c218]) dX0_isDeniedBy_226
                  · refine lv_iconst (v := (1 : Int32)) hx hb dX0_isDeniedBy_221 (by decide) ?_
                    refine lv_goto (tgt := 226) hx hb dX0_isDeniedBy_222 (by decide) ?_
                    exact ret _ _ _ (Or.inr rfl) (by simp [zden, k39_5, c210, c218]) dX0_isDeniedBy_226
              · by_cases k39_6 : kd = (6 : Int32)
                · refine lv_tableIn (tgt := 227) hx hb dX0_isDeniedBy_39 (by rw [k39_6]; decide) (by rw [k39_6]; decide) (by rw [k39_6]; rfl) (by decide) ?_
                  refine lv_iload hx hb dX0_isDeniedBy_227 (lv_at hl 2 rfl) ?_
                  refine lv_iload hx hb dX0_isDeniedBy_229 (lv_at hl 1 rfl) ?_
                  refine lv_aload_n hx hb dX0_isDeniedBy_231 rfl (lv_at hl 4 rfl) ?_
                  refine zq_get hx hb hts in_X0_isDeniedBy_X0 hown hK hP 0 rfl rfl 2 (by decide) (hts _ w_X0_isDeniedBy__fieldLink_RX0_18_WordsBeside_Claim_p_I__01826a) rfl dX0_isDeniedBy_232 ?_
                  refine lv_icmp_ge (tgt := 242) hx hb dX0_isDeniedBy_235 (by decide) (fun c235 => ?_) (fun c235 => ?_)
                  · refine lv_iconst (v := (0 : Int32)) hx hb dX0_isDeniedBy_242 (by decide) ?_
                    refine lv_icmp_ne (tgt := 250) hx hb dX0_isDeniedBy_243 (by decide) (fun c243 => ?_) (fun c243 => absurd c243 (by decide))
                    refine lv_iconst (v := (0 : Int32)) hx hb dX0_isDeniedBy_250 (by decide) ?_
                    exact ret _ _ _ (Or.inl rfl) (by simp [zden, c13, k39_6, c235, Int32.not_lt.mpr c235]) dX0_isDeniedBy_251
                  · refine lv_iconst (v := (1 : Int32)) hx hb dX0_isDeniedBy_238 (by decide) ?_
                    refine lv_goto (tgt := 243) hx hb dX0_isDeniedBy_239 (by decide) ?_
                    refine lv_icmp_ne (tgt := 250) hx hb dX0_isDeniedBy_243 (by decide) (fun c243 => absurd c243 (by decide)) (fun c243 => ?_)
                    refine lv_iconst (v := (1 : Int32)) hx hb dX0_isDeniedBy_246 (by decide) ?_
                    refine lv_goto (tgt := 251) hx hb dX0_isDeniedBy_247 (by decide) ?_
                    exact ret _ _ _ (Or.inr rfl) (by simp [zden, c13, k39_6, c235, Int32.not_le.mp c235]) dX0_isDeniedBy_251
                · by_cases k39_7 : kd = (7 : Int32)
                  · refine lv_tableIn (tgt := 252) hx hb dX0_isDeniedBy_39 (by rw [k39_7]; decide) (by rw [k39_7]; decide) (by rw [k39_7]; rfl) (by decide) ?_
                    refine lv_iload_n hx hb dX0_isDeniedBy_252 rfl (lv_at hl 3 rfl) ?_
                    refine lv_aload_n hx hb dX0_isDeniedBy_253 rfl (lv_at hl 6 rfl) ?_
                    refine lv_aload_n hx hb dX0_isDeniedBy_254 rfl (lv_at hl 4 rfl) ?_
                    refine zq_get hx hb hts in_X0_isDeniedBy_X0 hown hK hP 0 rfl rfl 2 (by decide) (hts _ w_X0_isDeniedBy__fieldLink_RX0_18_WordsBeside_Claim_p_I__01826a) rfl dX0_isDeniedBy_255 ?_
                    refine lv_iload_n hx hb dX0_isDeniedBy_258 rfl (lv_at hl 5 rfl) ?_
                    refine zq_cV (rest := [.int (G (256 * f + r))]) ⟨hx, hb, hml, hown, hts⟩ (zq_ro_mono (c_X2_given l D cI cZ cW cC w g G p1 (nI r)) (fun v h => h.trans (congrArg (fun z => some (Value.int z)) (zg_p hr)))) (cwV 2 hts gX0_isDeniedBy_X2_given rfl rfl rfl (by decide +kernel) ⟨Nat.le_of_ble_eq_true rfl, Nat.le_of_ble_eq_true rfl⟩) hK (hP.sub [1, 2] rfl) 2 0 rfl rfl rfl hl.1 rfl (Nat.le_of_ble_eq_true rfl) dX0_isDeniedBy_259 ⟨Nat.le_of_ble_eq_true rfl, Nat.le_of_ble_eq_true rfl⟩ (fun v hv => ?_)
                    obtain rfl := hv
                    refine W.eq (g2 := F0 m 262 ls [.int (zgp G p1 r), .int (G (256 * f + r))]) rfl ?_
                    refine lv_icmp_eq (tgt := 269) hx hb dX0_isDeniedBy_262 (by decide) (fun c262 => ?_) (fun c262 => ?_)
                    · refine lv_iconst (v := (0 : Int32)) hx hb dX0_isDeniedBy_269 (by decide) ?_
                      exact ret _ _ _ (Or.inl rfl) (by simp [zden, k39_7, c262]) dX0_isDeniedBy_270
                    · refine lv_iconst (v := (1 : Int32)) hx hb dX0_isDeniedBy_265 (by decide) ?_
                      refine lv_goto (tgt := 270) hx hb dX0_isDeniedBy_266 (by decide) ?_
                      exact ret _ _ _ (Or.inr rfl) (by simp [zden, k39_7, c262]) dX0_isDeniedBy_270
                  · refine lv_tableOut (tgt := 271) hx hb dX0_isDeniedBy_39 (by have k39_0T := lv_neT k39_0 (a := 0) rfl; have k39_1T := lv_neT k39_1 (a := 1) rfl; have k39_2T := lv_neT k39_2 (a := 2) rfl; have k39_3T := lv_neT k39_3 (a := 3) rfl; have k39_4T := lv_neT k39_4 (a := 4) rfl; have k39_5T := lv_neT k39_5 (a := 5) rfl; have k39_6T := lv_neT k39_6 (a := 6) rfl; have k39_7T := lv_neT k39_7 (a := 7) rfl; omega) (by decide) ?_
                    refine lv_iconst (v := (0 : Int32)) hx hb dX0_isDeniedBy_271 (by decide) ?_
                    exact ret _ _ _ (Or.inl rfl) (by simp [zden, k39_0, k39_1, k39_2, k39_3, k39_4, k39_5, k39_6, k39_7]) dX0_isDeniedBy_272
set_option maxHeartbeats 4000000 in
set_option maxRecDepth 100000 in
theorem c_X0_firstDenialIn (l : Launch) (D : va_G) (cI cZ cW cC : ClassId) (co w g : Nat) (G : Nat → Int32) (f : Nat) (hf : f < 6) (kd p1 q1 bn lh mk : Int32) : zq_ro l D cI cZ cW cC yX0_firstDenialIn wsX0_firstDenialIn ({ frames := 2, cells := 0, slots := 0, locals := 49 } : Room) [.ref co, .ref w] [(co, .inr (0, [.int (nI f), .int kd, .int p1, .int q1, .int bn, .int lh, .int mk])), (w, .inr (2, [.ref g])), (g, .inl (cI, 1536, .inl G))] (fun v => v = some (.int (if fa_first (zden G f kd p1 q1) 256 < 256 then nI (fa_first (zden G f kd p1 q1) 256) else -1))) := by
  refine zq_roI (own := RX0) (by decide) rfl rfl (Nat.le_of_ble_eq_true rfl) ?_
  intro p e s m below meth c Q ls hF hP hK hl ret
  obtain ⟨hx, hb, hml, hown, hts⟩ := hF
  have hl : lv_has ls 3 [(0, .ref co), (1, .ref w)] := hl
  refine lv_iconst (v := (0 : Int32)) hx hb dX0_firstDenialIn_0 (by decide) ?_
  refine lv_istore_n (lv' := [(2, .int (nI 0)), (0, .ref co), (1, .ref w)]) hx hb dX0_firstDenialIn_1 rfl hl (by decide) rfl (fun ls hl => ?_)
  have loop2 : ∀ (fu2 : Nat) (k : Nat) (ls : Array Slot), (256 - k) < fu2 → (k ≤ 256) → (∀ j, j < k → (zden G f kd p1 q1) j = false) → lv_has ls 3 [(0, .ref co), (1, .ref w), (2, .int (nI k))] → W p l e ({ frames := 2, cells := 0, slots := 0, locals := 49 } : Room) s m ([.ref co, .ref w] : List Value).toArray below meth c s.heap [] 0 0 Q (F0 m 2 ls []) := by
    intro fu2
    induction fu2 with
    | zero => intro _ _ hmu; exact absurd hmu (Nat.not_lt_zero _)
    | succ fu2 ih2 =>
      intro k ls hmu2 hk hno hl
      refine lv_iload_n hx hb dX0_firstDenialIn_2 rfl (lv_at hl 2 rfl) ?_
      refine lv_sipush (v := (nI 256)) hx hb dX0_firstDenialIn_3 (by decide) ?_
      refine lv_icmp_ge (tgt := 26) hx hb dX0_firstDenialIn_6 (by decide) (fun c6 => ?_) (fun c6 => ?_)
      · have h6 := zle c6
        refine lv_iconst (v := (-1 : Int32)) hx hb dX0_firstDenialIn_26 (by decide) ?_
        exact ret _ _ _ (by rw [zfirst_none (fun j hj => hno j (by omega)), if_neg (by omega)]) dX0_firstDenialIn_27
      · have h6 := znle c6
        refine lv_aload_n hx hb dX0_firstDenialIn_9 rfl (lv_at hl 0 rfl) ?_
        refine lv_iload_n hx hb dX0_firstDenialIn_10 rfl (lv_at hl 2 rfl) ?_
        refine lv_aload_n hx hb dX0_firstDenialIn_11 rfl (lv_at hl 1 rfl) ?_
        refine zq_cV (rest := []) ⟨hx, hb, hml, hown, hts⟩ (c_X0_isDeniedBy l D cI cZ cW cC co w g G f hf kd p1 q1 bn lh mk k (by omega)) (cwV 2 hts gX0_firstDenialIn_X0_isDeniedBy rfl rfl rfl (by decide +kernel) ⟨Nat.le_of_ble_eq_true rfl, Nat.le_of_ble_eq_true rfl⟩) hK hP 0 0 rfl rfl rfl hl.1 rfl (Nat.le_of_ble_eq_true rfl) dX0_firstDenialIn_12 ⟨Nat.le_of_ble_eq_true rfl, Nat.le_of_ble_eq_true rfl⟩ (fun v hv => ?_)
        obtain rfl := hv
        refine W.eq (g2 := F0 m 15 ls [.int (if zden G f kd p1 q1 k then (1 : Int32) else 0)]) rfl ?_
        refine lv_if_eq (tgt := 20) hx hb dX0_firstDenialIn_15 (by decide) (fun c15 => ?_) (fun c15 => ?_)
        · have hd : (zden G f kd p1 q1) k = false := by
            rcases hh : (zden G f kd p1 q1) k with _ | _
            · rfl
            · rw [hh] at c15; exact absurd c15 (by decide)
          refine lv_iinc (v := (nI (k + 1))) (lv' := [(2, .int (nI (k + 1))), (0, .ref co), (1, .ref w)]) hx hb dX0_firstDenialIn_20 hl (k := 2) rfl ((nI_succ _).symm) (by decide) rfl (fun ls hl => ?_)
          refine lv_goto (tgt := 2) hx hb dX0_firstDenialIn_23 (by decide) ?_
          exact ih2 (k + 1) ls (by omega) (by omega) (lt_s hno hd) (lv_sub hl [1, 2, 0] rfl)
        · have hd : (zden G f kd p1 q1) k = true := by
            rcases hh : (zden G f kd p1 q1) k with _ | _
            · rw [hh] at c15; exact absurd rfl c15
            · rfl
          refine lv_iload_n hx hb dX0_firstDenialIn_18 rfl (lv_at hl 2 rfl) ?_
          exact ret _ _ _ (by rw [zfirst_eq (k := k) (by omega) hd hno, if_pos (by omega)]) dX0_firstDenialIn_19
  exact loop2 (256 + 1) 0 ls (by omega) (by omega) (fun j hj => absurd hj (Nat.not_lt_zero j)) (lv_sub hl [1, 2, 0] rfl)
set_option maxHeartbeats 4000000 in
set_option maxRecDepth 100000 in
theorem c_X0_harmIn (l : Launch) (D : va_G) (cI cZ cW cC : ClassId) (co w g : Nat) (G : Nat → Int32) (f : Nat) (hf : f < 6) (kd p1 q1 bn lh mk : Int32) : zq_ro l D cI cZ cW cC yX0_harmIn wsX0_harmIn ({ frames := 2, cells := 0, slots := 0, locals := 49 } : Room) [.ref co, .ref w] [(co, .inr (0, [.int (nI f), .int kd, .int p1, .int q1, .int bn, .int lh, .int mk])), (w, .inr (2, [.ref g])), (g, .inl (cI, 1536, .inl G))] (fun v => v = some (.int (nI (fb_ct (zden G f kd p1 q1) 256)))) := by
  refine zq_roI (own := RX0) (by decide) rfl rfl (Nat.le_of_ble_eq_true rfl) ?_
  intro p e s m below meth c Q ls hF hP hK hl ret
  obtain ⟨hx, hb, hml, hown, hts⟩ := hF
  have hl : lv_has ls 4 [(0, .ref co), (1, .ref w)] := hl
  refine lv_iconst (v := (0 : Int32)) hx hb dX0_harmIn_0 (by decide) ?_
  refine lv_istore_n (lv' := [(2, .int (nI 0)), (0, .ref co), (1, .ref w)]) hx hb dX0_harmIn_1 rfl hl (by decide) rfl (fun ls hl => ?_)
  refine lv_iconst (v := (0 : Int32)) hx hb dX0_harmIn_2 (by decide) ?_
  refine lv_istore_n (lv' := [(3, .int (nI 0)), (2, .int (nI 0)), (0, .ref co), (1, .ref w)]) hx hb dX0_harmIn_3 rfl hl (by decide) rfl (fun ls hl => ?_)
  have loop4 : ∀ (fu4 : Nat) (k : Nat) (n2 : Nat) (ls : Array Slot), (256 - k) < fu4 → (k ≤ 256) → (n2 = fb_ct (zden G f kd p1 q1) k) → lv_has ls 4 [(0, .ref co), (1, .ref w), (2, .int (nI n2)), (3, .int (nI k))] → W p l e ({ frames := 2, cells := 0, slots := 0, locals := 49 } : Room) s m ([.ref co, .ref w] : List Value).toArray below meth c s.heap [] 0 0 Q (F0 m 4 ls []) := by
    intro fu4
    induction fu4 with
    | zero => intro _ _ _ hmu; exact absurd hmu (Nat.not_lt_zero _)
    | succ fu4 ih4 =>
      intro k n2 ls hmu4 hk en2 hl
      refine lv_iload_n hx hb dX0_harmIn_4 rfl (lv_at hl 3 rfl) ?_
      refine lv_sipush (v := (nI 256)) hx hb dX0_harmIn_5 (by decide) ?_
      refine lv_icmp_ge (tgt := 29) hx hb dX0_harmIn_8 (by decide) (fun c8 => ?_) (fun c8 => ?_)
      · have h8 := zle c8
        refine lv_iload_n hx hb dX0_harmIn_29 rfl (lv_at hl 2 rfl) ?_
        exact ret _ _ _ (by rw [en2, show k = 256 by omega]) dX0_harmIn_30
      · have h8 := znle c8
        refine lv_aload_n hx hb dX0_harmIn_11 rfl (lv_at hl 0 rfl) ?_
        refine lv_iload_n hx hb dX0_harmIn_12 rfl (lv_at hl 3 rfl) ?_
        refine lv_aload_n hx hb dX0_harmIn_13 rfl (lv_at hl 1 rfl) ?_
        refine zq_cV (rest := []) ⟨hx, hb, hml, hown, hts⟩ (c_X0_isDeniedBy l D cI cZ cW cC co w g G f hf kd p1 q1 bn lh mk k (by omega)) (cwV 2 hts gX0_harmIn_X0_isDeniedBy rfl rfl rfl (by decide +kernel) ⟨Nat.le_of_ble_eq_true rfl, Nat.le_of_ble_eq_true rfl⟩) hK hP 0 0 rfl rfl rfl hl.1 rfl (Nat.le_of_ble_eq_true rfl) dX0_harmIn_14 ⟨Nat.le_of_ble_eq_true rfl, Nat.le_of_ble_eq_true rfl⟩ (fun v hv => ?_)
        obtain rfl := hv
        refine W.eq (g2 := F0 m 17 ls [.int (if zden G f kd p1 q1 k then (1 : Int32) else 0)]) rfl ?_
        refine lv_if_eq (tgt := 23) hx hb dX0_harmIn_17 (by decide) (fun c17 => ?_) (fun c17 => ?_)
        · have hd : (zden G f kd p1 q1) k = false := by
            rcases hh : (zden G f kd p1 q1) k with _ | _
            · rfl
            · rw [hh] at c17; exact absurd c17 (by decide)
          refine lv_iinc (v := (nI (k + 1))) (lv' := [(3, .int (nI (k + 1))), (0, .ref co), (1, .ref w), (2, .int (nI n2))]) hx hb dX0_harmIn_23 hl (k := 3) rfl ((nI_succ _).symm) (by decide) rfl (fun ls hl => ?_)
          refine lv_goto (tgt := 4) hx hb dX0_harmIn_26 (by decide) ?_
          exact ih4 (k + 1) n2 ls (by omega) (by omega) (by rw [fb_ct_succ, hd, en2]; rfl) (lv_sub hl [1, 2, 3, 0] rfl)
        · have hd : (zden G f kd p1 q1) k = true := by
            rcases hh : (zden G f kd p1 q1) k with _ | _
            · rw [hh] at c17; exact absurd rfl c17
            · rfl
          refine lv_iinc (v := (nI (n2 + 1))) (lv' := [(2, .int (nI (n2 + 1))), (0, .ref co), (1, .ref w), (3, .int (nI k))]) hx hb dX0_harmIn_20 hl (k := 2) rfl ((nI_succ _).symm) (by decide) rfl (fun ls hl => ?_)
          refine lv_iinc (v := (nI (k + 1))) (lv' := [(3, .int (nI (k + 1))), (2, .int (nI (n2 + 1))), (0, .ref co), (1, .ref w)]) hx hb dX0_harmIn_23 hl (k := 3) rfl ((nI_succ _).symm) (by decide) rfl (fun ls hl => ?_)
          refine lv_goto (tgt := 4) hx hb dX0_harmIn_26 (by decide) ?_
          exact ih4 (k + 1) (n2 + 1) ls (by omega) (by omega) (by rw [fb_ct_succ, hd, en2]; rfl) (lv_sub hl [2, 3, 1, 0] rfl)
  exact loop4 (256 + 1) 0 0 ls (by omega) (by omega) rfl (lv_sub hl [2, 3, 1, 0] rfl)
set_option maxHeartbeats 4000000 in
set_option maxRecDepth 100000 in
theorem c_X0_isHeldIn (l : Launch) (D : va_G) (cI cZ cW cC : ClassId) (co w g : Nat) (G : Nat → Int32) (f : Nat) (hf : f < 6) (kd p1 q1 bn lh mk : Int32) : zq_ro l D cI cZ cW cC yX0_isHeldIn wsX0_isHeldIn ({ frames := 3, cells := 0, slots := 0, locals := 71 } : Room) [.ref co, .ref w] [(co, .inr (0, [.int (nI f), .int kd, .int p1, .int q1, .int bn, .int lh, .int mk])), (w, .inr (2, [.ref g])), (g, .inl (cI, 1536, .inl G))] (fun v => v = some (.int (if zheld (zden G f kd p1 q1) then 1 else 0))) := by
  refine zq_roZ (own := RX0) (by decide) rfl rfl (Nat.le_of_ble_eq_true rfl) ?_
  intro p e s m below meth c Q ls hF hP hK hl ret
  obtain ⟨hx, hb, hml, hown, hts⟩ := hF
  have hl : lv_has ls 2 [(0, .ref co), (1, .ref w)] := hl
  have hfl := fa_first_le (zden G f kd p1 q1) 256
  refine lv_aload_n hx hb dX0_isHeldIn_0 rfl (lv_at hl 0 rfl) ?_
  refine lv_aload_n hx hb dX0_isHeldIn_1 rfl (lv_at hl 1 rfl) ?_
  refine zq_cV (rest := []) ⟨hx, hb, hml, hown, hts⟩ (c_X0_firstDenialIn l D cI cZ cW cC co w g G f hf kd p1 q1 bn lh mk) (cwV 1 hts gX0_isHeldIn_X0_firstDenialIn rfl rfl rfl (by decide +kernel) ⟨Nat.le_of_ble_eq_true rfl, Nat.le_of_ble_eq_true rfl⟩) hK hP 0 0 rfl rfl rfl hl.1 rfl (Nat.le_of_ble_eq_true rfl) dX0_isHeldIn_2 ⟨Nat.le_of_ble_eq_true rfl, Nat.le_of_ble_eq_true rfl⟩ (fun v hv => ?_)
  obtain rfl := hv
  refine W.eq (g2 := F0 m 5 ls [.int (if fa_first (zden G f kd p1 q1) 256 < 256 then nI (fa_first (zden G f kd p1 q1) 256) else -1)]) rfl ?_
  refine lv_iconst (v := (-1 : Int32)) hx hb dX0_isHeldIn_5 (by decide) ?_
  refine lv_icmp_ne (tgt := 13) hx hb dX0_isHeldIn_6 (by decide) (fun c6 => ?_) (fun c6 => ?_)
  · refine lv_iconst (v := (0 : Int32)) hx hb dX0_isHeldIn_13 (by decide) ?_
    exact ret _ _ _ (Or.inl rfl) (by rw [zheld_n _ c6]; rfl) dX0_isHeldIn_14
  · refine lv_iconst (v := (1 : Int32)) hx hb dX0_isHeldIn_9 (by decide) ?_
    refine lv_goto (tgt := 14) hx hb dX0_isHeldIn_10 (by decide) ?_
    exact ret _ _ _ (Or.inr rfl) (by rw [zheld_y _ c6]; rfl) dX0_isHeldIn_14
