/-! statics of WordsBeside, World: reading methods -/
theorem zgd_no {c n : Nat} (h1 : 1 ≤ n) (h : ¬ c % n = 0) : zgd c n = zgd c (n - 1) := by
  obtain ⟨t, rfl⟩ : ∃ t, n = t + 1 := ⟨n - 1, by omega⟩
  rw [zgd, if_neg h, Nat.add_sub_cancel]
theorem zgd_yes {c n : Nat} (h1 : 1 ≤ n) (h : c % n = 0) : zgd c n = n := by
  obtain ⟨t, rfl⟩ : ∃ t, n = t + 1 := ⟨n - 1, by omega⟩
  rw [zgd, if_pos h]
set_option maxHeartbeats 4000000 in
set_option maxRecDepth 100000 in
theorem c_X3_isFunction (l : Launch) (D : va_G) (cI cZ cW cC : ClassId) (x : Int32) : zq_ro l D cI cZ cW cC yX3_isFunction wsX3_isFunction ({ frames := 0, cells := 0, slots := 0, locals := 0 } : Room) [.int x] [] (fun v => (v = some (.int 1) ∧ zr 6 x) ∨ (v = some (.int 0) ∧ ¬ zr 6 x)) := by
  refine zq_roZ (own := RX3) (by decide) rfl rfl (Nat.le_of_ble_eq_true rfl) ?_
  intro p e s m below meth c Q ls hF hP hK hl ret
  obtain ⟨hx, hb, hml, hown, hts⟩ := hF
  have hl : lv_has ls 1 [(0, .int x)] := hl
  refine lv_iload_n hx hb dX3_isFunction_0 rfl (lv_at hl 0 rfl) ?_
  refine lv_if_lt (tgt := 14) hx hb dX3_isFunction_1 (by decide) (fun c1 => ?_) (fun c1 => ?_)
  · refine lv_iconst (v := (0 : Int32)) hx hb dX3_isFunction_14 (by decide) ?_
    exact ret _ _ _ (Or.inl rfl) (by first | exact Or.inr ⟨rfl, zr_lo c1⟩ | exact Or.inr ⟨rfl, zr_hi c7⟩ | exact Or.inl ⟨rfl, zr_of c1 c7⟩ | fail "open") dX3_isFunction_15
  · refine lv_iload_n hx hb dX3_isFunction_4 rfl (lv_at hl 0 rfl) ?_
    refine lv_bipush (v := (nI 6)) hx hb dX3_isFunction_5 (by decide) ?_
    refine lv_icmp_ge (tgt := 14) hx hb dX3_isFunction_7 (by decide) (fun c7 => ?_) (fun c7 => ?_)
    · refine lv_iconst (v := (0 : Int32)) hx hb dX3_isFunction_14 (by decide) ?_
      exact ret _ _ _ (Or.inl rfl) (by first | exact Or.inr ⟨rfl, zr_lo c1⟩ | exact Or.inr ⟨rfl, zr_hi c7⟩ | exact Or.inl ⟨rfl, zr_of c1 c7⟩ | fail "open") dX3_isFunction_15
    · refine lv_iconst (v := (1 : Int32)) hx hb dX3_isFunction_10 (by decide) ?_
      refine lv_goto (tgt := 15) hx hb dX3_isFunction_11 (by decide) ?_
      exact ret _ _ _ (Or.inr rfl) (by first | exact Or.inr ⟨rfl, zr_lo c1⟩ | exact Or.inr ⟨rfl, zr_hi c7⟩ | exact Or.inl ⟨rfl, zr_of c1 c7⟩ | fail "open") dX3_isFunction_15
set_option maxHeartbeats 4000000 in
set_option maxRecDepth 100000 in
theorem c_X3_isRun (l : Launch) (D : va_G) (cI cZ cW cC : ClassId) (x : Int32) : zq_ro l D cI cZ cW cC yX3_isRun wsX3_isRun ({ frames := 0, cells := 0, slots := 0, locals := 0 } : Room) [.int x] [] (fun v => (v = some (.int 1) ∧ zr 256 x) ∨ (v = some (.int 0) ∧ ¬ zr 256 x)) := by
  refine zq_roZ (own := RX3) (by decide) rfl rfl (Nat.le_of_ble_eq_true rfl) ?_
  intro p e s m below meth c Q ls hF hP hK hl ret
  obtain ⟨hx, hb, hml, hown, hts⟩ := hF
  have hl : lv_has ls 1 [(0, .int x)] := hl
  refine lv_iload_n hx hb dX3_isRun_0 rfl (lv_at hl 0 rfl) ?_
  refine lv_if_lt (tgt := 15) hx hb dX3_isRun_1 (by decide) (fun c1 => ?_) (fun c1 => ?_)
  · refine lv_iconst (v := (0 : Int32)) hx hb dX3_isRun_15 (by decide) ?_
    exact ret _ _ _ (Or.inl rfl) (by first | exact Or.inr ⟨rfl, zr_lo c1⟩ | exact Or.inr ⟨rfl, zr_hi c7⟩ | exact Or.inl ⟨rfl, zr_of c1 c7⟩ | exact Or.inr ⟨rfl, zr_hi c8⟩ | exact Or.inl ⟨rfl, zr_of c1 c8⟩ | fail "open") dX3_isRun_16
  · refine lv_iload_n hx hb dX3_isRun_4 rfl (lv_at hl 0 rfl) ?_
    refine lv_sipush (v := (nI 256)) hx hb dX3_isRun_5 (by decide) ?_
    refine lv_icmp_ge (tgt := 15) hx hb dX3_isRun_8 (by decide) (fun c8 => ?_) (fun c8 => ?_)
    · refine lv_iconst (v := (0 : Int32)) hx hb dX3_isRun_15 (by decide) ?_
      exact ret _ _ _ (Or.inl rfl) (by first | exact Or.inr ⟨rfl, zr_lo c1⟩ | exact Or.inr ⟨rfl, zr_hi c7⟩ | exact Or.inl ⟨rfl, zr_of c1 c7⟩ | exact Or.inr ⟨rfl, zr_hi c8⟩ | exact Or.inl ⟨rfl, zr_of c1 c8⟩ | fail "open") dX3_isRun_16
    · refine lv_iconst (v := (1 : Int32)) hx hb dX3_isRun_11 (by decide) ?_
      refine lv_goto (tgt := 16) hx hb dX3_isRun_12 (by decide) ?_
      exact ret _ _ _ (Or.inr rfl) (by first | exact Or.inr ⟨rfl, zr_lo c1⟩ | exact Or.inr ⟨rfl, zr_hi c7⟩ | exact Or.inl ⟨rfl, zr_of c1 c7⟩ | exact Or.inr ⟨rfl, zr_hi c8⟩ | exact Or.inl ⟨rfl, zr_of c1 c8⟩ | fail "open") dX3_isRun_16
theorem w_X3_isWithinLimit__constant_RX3_170_1000000__b799e6 : (.constant RX3 170 (-1000000) : Cond) ∈ wsX3_isWithinLimit := by decide +kernel
theorem w_X3_isWithinLimit__constant_RX3_171_1000000__497f92 : (.constant RX3 171 (1000000) : Cond) ∈ wsX3_isWithinLimit := by decide +kernel
set_option maxHeartbeats 4000000 in
set_option maxRecDepth 100000 in
theorem c_X3_isWithinLimit (l : Launch) (D : va_G) (cI cZ cW cC : ClassId) (x : Int32) : zq_ro l D cI cZ cW cC yX3_isWithinLimit wsX3_isWithinLimit ({ frames := 0, cells := 0, slots := 0, locals := 0 } : Room) [.int x] [] (fun v => (v = some (.int 1) ∧ (-1000000 : Int32) ≤ x ∧ x ≤ 1000000) ∨ (v = some (.int 0) ∧ (x < (-1000000 : Int32) ∨ (1000000 : Int32) < x))) := by
  refine zq_roZ (own := RX3) (by decide) rfl rfl (Nat.le_of_ble_eq_true rfl) ?_
  intro p e s m below meth c Q ls hF hP hK hl ret
  obtain ⟨hx, hb, hml, hown, hts⟩ := hF
  have hl : lv_has ls 1 [(0, .int x)] := hl
  refine lv_iload_n hx hb dX3_isWithinLimit_0 rfl (lv_at hl 0 rfl) ?_
  refine lv_ldc (v := (-1000000 : Int32)) hx hb hown (hts _ w_X3_isWithinLimit__constant_RX3_170_1000000__b799e6) dX3_isWithinLimit_1 ?_
  refine lv_icmp_lt (tgt := 16) hx hb dX3_isWithinLimit_3 (by decide) (fun c3 => ?_) (fun c3 => ?_)
  · refine lv_iconst (v := (0 : Int32)) hx hb dX3_isWithinLimit_16 (by decide) ?_
    exact ret _ _ _ (Or.inl rfl) (by first | exact Or.inr ⟨rfl, Or.inl c3⟩ | exact Or.inr ⟨rfl, Or.inr c9⟩ | exact Or.inl ⟨rfl, Int32.not_lt.mp c3, Int32.not_lt.mp c9⟩ | fail "open") dX3_isWithinLimit_17
  · refine lv_iload_n hx hb dX3_isWithinLimit_6 rfl (lv_at hl 0 rfl) ?_
    refine lv_ldc (v := (1000000 : Int32)) hx hb hown (hts _ w_X3_isWithinLimit__constant_RX3_171_1000000__497f92) dX3_isWithinLimit_7 ?_
    refine lv_icmp_gt (tgt := 16) hx hb dX3_isWithinLimit_9 (by decide) (fun c9 => ?_) (fun c9 => ?_)
    · refine lv_iconst (v := (0 : Int32)) hx hb dX3_isWithinLimit_16 (by decide) ?_
      exact ret _ _ _ (Or.inl rfl) (by first | exact Or.inr ⟨rfl, Or.inl c3⟩ | exact Or.inr ⟨rfl, Or.inr c9⟩ | exact Or.inl ⟨rfl, Int32.not_lt.mp c3, Int32.not_lt.mp c9⟩ | fail "open") dX3_isWithinLimit_17
    · refine lv_iconst (v := (1 : Int32)) hx hb dX3_isWithinLimit_12 (by decide) ?_
      refine lv_goto (tgt := 17) hx hb dX3_isWithinLimit_13 (by decide) ?_
      exact ret _ _ _ (Or.inr rfl) (by first | exact Or.inr ⟨rfl, Or.inl c3⟩ | exact Or.inr ⟨rfl, Or.inr c9⟩ | exact Or.inl ⟨rfl, Int32.not_lt.mp c3, Int32.not_lt.mp c9⟩ | fail "open") dX3_isWithinLimit_17
set_option maxHeartbeats 4000000 in
set_option maxRecDepth 100000 in
theorem c_X3_runNumber (l : Launch) (D : va_G) (cI cZ cW cC : ClassId) (x y : Int32) : zq_ro l D cI cZ cW cC yX3_runNumber wsX3_runNumber ({ frames := 0, cells := 0, slots := 0, locals := 0 } : Room) [.int x, .int y] [] (fun v => (∃ i j : Nat, i < 16 ∧ j < 16 ∧ x = nI i ∧ y = nI j ∧ v = some (.int (nI (16 * i + j)))) ∨ (v = some (.int (-1)) ∧ ¬ (zr 16 x ∧ zr 16 y))) := by
  refine zq_roI (own := RX3) (by decide) rfl rfl (Nat.le_of_ble_eq_true rfl) ?_
  intro p e s m below meth c Q ls hF hP hK hl ret
  obtain ⟨hx, hb, hml, hown, hts⟩ := hF
  have hl : lv_has ls 2 [(0, .int x), (1, .int y)] := hl
  refine lv_iload_n hx hb dX3_runNumber_0 rfl (lv_at hl 0 rfl) ?_
  refine lv_if_lt (tgt := 20) hx hb dX3_runNumber_1 (by decide) (fun c1 => ?_) (fun c1 => ?_)
  · refine lv_iconst (v := (-1 : Int32)) hx hb dX3_runNumber_20 (by decide) ?_
    exact ret _ _ _ (by first | exact Or.inr ⟨rfl, fun q => absurd q.1 (zr_lo c1)⟩ | exact Or.inr ⟨rfl, fun q => absurd q.1 (zr_hi c7)⟩ | exact Or.inr ⟨rfl, fun q => absurd q.2 (zr_lo c11)⟩ | exact Or.inr ⟨rfl, fun q => absurd q.2 (zr_hi (Int32.not_lt.mp c17))⟩ | fail "open") dX3_runNumber_21
  · refine lv_iload_n hx hb dX3_runNumber_4 rfl (lv_at hl 0 rfl) ?_
    refine lv_bipush (v := (nI 16)) hx hb dX3_runNumber_5 (by decide) ?_
    refine lv_icmp_ge (tgt := 20) hx hb dX3_runNumber_7 (by decide) (fun c7 => ?_) (fun c7 => ?_)
    · refine lv_iconst (v := (-1 : Int32)) hx hb dX3_runNumber_20 (by decide) ?_
      exact ret _ _ _ (by first | exact Or.inr ⟨rfl, fun q => absurd q.1 (zr_lo c1)⟩ | exact Or.inr ⟨rfl, fun q => absurd q.1 (zr_hi c7)⟩ | exact Or.inr ⟨rfl, fun q => absurd q.2 (zr_lo c11)⟩ | exact Or.inr ⟨rfl, fun q => absurd q.2 (zr_hi (Int32.not_lt.mp c17))⟩ | fail "open") dX3_runNumber_21
    · refine lv_iload_n hx hb dX3_runNumber_10 rfl (lv_at hl 1 rfl) ?_
      refine lv_if_lt (tgt := 20) hx hb dX3_runNumber_11 (by decide) (fun c11 => ?_) (fun c11 => ?_)
      · refine lv_iconst (v := (-1 : Int32)) hx hb dX3_runNumber_20 (by decide) ?_
        exact ret _ _ _ (by first | exact Or.inr ⟨rfl, fun q => absurd q.1 (zr_lo c1)⟩ | exact Or.inr ⟨rfl, fun q => absurd q.1 (zr_hi c7)⟩ | exact Or.inr ⟨rfl, fun q => absurd q.2 (zr_lo c11)⟩ | exact Or.inr ⟨rfl, fun q => absurd q.2 (zr_hi (Int32.not_lt.mp c17))⟩ | fail "open") dX3_runNumber_21
      · refine lv_iload_n hx hb dX3_runNumber_14 rfl (lv_at hl 1 rfl) ?_
        refine lv_bipush (v := (nI 16)) hx hb dX3_runNumber_15 (by decide) ?_
        refine lv_icmp_lt (tgt := 22) hx hb dX3_runNumber_17 (by decide) (fun c17 => ?_) (fun c17 => ?_)
        · refine lv_iload_n hx hb dX3_runNumber_22 rfl (lv_at hl 0 rfl) ?_
          refine lv_bipush (v := (nI 16)) hx hb dX3_runNumber_23 (by decide) ?_
          refine lv_imul hx hb dX3_runNumber_25 ?_
          refine lv_iload_n hx hb dX3_runNumber_26 rfl (lv_at hl 1 rfl) ?_
          refine lv_iadd hx hb dX3_runNumber_27 ?_
          exact ret _ _ _ (by obtain ⟨i, hi, rfl⟩ := zr_of c1 c7; obtain ⟨j, hj, rfl⟩ := zr_of c11 (Int32.not_le.mpr c17); exact Or.inl ⟨i, j, hi, hj, rfl, rfl, by rw [pk_mul, nI_add, Nat.mul_comm]⟩) dX3_runNumber_28
        · refine lv_iconst (v := (-1 : Int32)) hx hb dX3_runNumber_20 (by decide) ?_
          exact ret _ _ _ (by first | exact Or.inr ⟨rfl, fun q => absurd q.1 (zr_lo c1)⟩ | exact Or.inr ⟨rfl, fun q => absurd q.1 (zr_hi c7)⟩ | exact Or.inr ⟨rfl, fun q => absurd q.2 (zr_lo c11)⟩ | exact Or.inr ⟨rfl, fun q => absurd q.2 (zr_hi (Int32.not_lt.mp c17))⟩ | fail "open") dX3_runNumber_21
theorem w_X2_given__constant_RX2_29_2147483648__9aba07 : (.constant RX2 29 (-2147483648) : Cond) ∈ wsX2_given := by decide +kernel
theorem w_X2_given__fieldLink_RX2_9_WordsBeside_World_gives_I__36404f : (.fieldLink RX2 9 "WordsBeside$World" "gives" "[I" : Cond) ∈ wsX2_given := by decide +kernel
theorem in_X2_given_X2 : ∀ w ∈ wsX20, w ∈ wsX2_given := fun _ h => List.mem_cons_of_mem _ (List.mem_append_right _ h)
set_option maxHeartbeats 4000000 in
set_option maxRecDepth 100000 in
theorem c_X2_given (l : Launch) (D : va_G) (cI cZ cW cC : ClassId) (w g : Nat) (G : Nat → Int32) (f r : Int32) : zq_ro l D cI cZ cW cC yX2_given wsX2_given ({ frames := 0, cells := 0, slots := 0, locals := 0 } : Room) [.ref w, .int f, .int r] [(w, .inr (2, [.ref g])), (g, .inl (cI, 1536, .inl G))] (fun v => v = some (.int (zg G f r))) := by
  refine zq_roI (own := RX2) (by decide) rfl rfl (Nat.le_of_ble_eq_true rfl) ?_
  intro p e s m below meth c Q ls hF hP hK hl ret
  obtain ⟨hx, hb, hml, hown, hts⟩ := hF
  have hl : lv_has ls 3 [(0, .ref w), (1, .int f), (2, .int r)] := hl
  refine lv_iload_n hx hb dX2_given_0 rfl (lv_at hl 1 rfl) ?_
  refine lv_if_lt (tgt := 21) hx hb dX2_given_1 (by decide) (fun c1 => ?_) (fun c1 => ?_)
  · refine lv_ldc (v := (-2147483648 : Int32)) hx hb hown (hts _ w_X2_given__constant_RX2_29_2147483648__9aba07) dX2_given_21 ?_
    exact ret _ _ _ (by first | exact congrArg (fun z => some (Value.int z)) (zg_nf (zr_lo c1)).symm | exact congrArg (fun z => some (Value.int z)) (zg_nf (zr_hi c7)).symm | exact congrArg (fun z => some (Value.int z)) (zg_nr (zr_lo c11)).symm | exact congrArg (fun z => some (Value.int z)) (zg_nr (zr_hi (Int32.not_lt.mp c18))).symm | fail "open") dX2_given_23
  · refine lv_iload_n hx hb dX2_given_4 rfl (lv_at hl 1 rfl) ?_
    refine lv_bipush (v := (nI 6)) hx hb dX2_given_5 (by decide) ?_
    refine lv_icmp_ge (tgt := 21) hx hb dX2_given_7 (by decide) (fun c7 => ?_) (fun c7 => ?_)
    · refine lv_ldc (v := (-2147483648 : Int32)) hx hb hown (hts _ w_X2_given__constant_RX2_29_2147483648__9aba07) dX2_given_21 ?_
      exact ret _ _ _ (by first | exact congrArg (fun z => some (Value.int z)) (zg_nf (zr_lo c1)).symm | exact congrArg (fun z => some (Value.int z)) (zg_nf (zr_hi c7)).symm | exact congrArg (fun z => some (Value.int z)) (zg_nr (zr_lo c11)).symm | exact congrArg (fun z => some (Value.int z)) (zg_nr (zr_hi (Int32.not_lt.mp c18))).symm | fail "open") dX2_given_23
    · refine lv_iload_n hx hb dX2_given_10 rfl (lv_at hl 2 rfl) ?_
      refine lv_if_lt (tgt := 21) hx hb dX2_given_11 (by decide) (fun c11 => ?_) (fun c11 => ?_)
      · refine lv_ldc (v := (-2147483648 : Int32)) hx hb hown (hts _ w_X2_given__constant_RX2_29_2147483648__9aba07) dX2_given_21 ?_
        exact ret _ _ _ (by first | exact congrArg (fun z => some (Value.int z)) (zg_nf (zr_lo c1)).symm | exact congrArg (fun z => some (Value.int z)) (zg_nf (zr_hi c7)).symm | exact congrArg (fun z => some (Value.int z)) (zg_nr (zr_lo c11)).symm | exact congrArg (fun z => some (Value.int z)) (zg_nr (zr_hi (Int32.not_lt.mp c18))).symm | fail "open") dX2_given_23
      · refine lv_iload_n hx hb dX2_given_14 rfl (lv_at hl 2 rfl) ?_
        refine lv_sipush (v := (nI 256)) hx hb dX2_given_15 (by decide) ?_
        refine lv_icmp_lt (tgt := 24) hx hb dX2_given_18 (by decide) (fun c18 => ?_) (fun c18 => ?_)
        · obtain ⟨f, hf, rfl⟩ := zr_of c1 c7
          obtain ⟨r, hr, rfl⟩ := zr_of c11 (Int32.not_le.mpr c18)
          refine lv_aload_n hx hb dX2_given_24 rfl (lv_at hl 0 rfl) ?_
          refine zq_get hx hb hts in_X2_given_X2 hown hK hP 0 rfl rfl 0 (by decide) (hts _ w_X2_given__fieldLink_RX2_9_WordsBeside_World_gives_I__36404f) rfl dX2_given_25 ?_
          refine lv_iload_n hx hb dX2_given_28 rfl (lv_at hl 1 rfl) ?_
          refine lv_sipush (v := (nI 256)) hx hb dX2_given_29 (by decide) ?_
          refine lv_imul hx hb dX2_given_32 ?_
          refine lv_iload_n hx hb dX2_given_33 rfl (lv_at hl 2 rfl) ?_
          refine lv_iadd hx hb dX2_given_34 ?_
          refine zq_ild hx hb hK hP 1 rfl (256 * f + r) (by simp only [pk_mul, nI_add] <;> (congr 1; omega)) (by omega) (by decide) dX2_given_35 ?_
          exact ret _ _ _ (congrArg (fun z => some (Value.int z)) (zg_in hf hr).symm) dX2_given_36
        · refine lv_ldc (v := (-2147483648 : Int32)) hx hb hown (hts _ w_X2_given__constant_RX2_29_2147483648__9aba07) dX2_given_21 ?_
          exact ret _ _ _ (by first | exact congrArg (fun z => some (Value.int z)) (zg_nf (zr_lo c1)).symm | exact congrArg (fun z => some (Value.int z)) (zg_nf (zr_hi c7)).symm | exact congrArg (fun z => some (Value.int z)) (zg_nr (zr_lo c11)).symm | exact congrArg (fun z => some (Value.int z)) (zg_nr (zr_hi (Int32.not_lt.mp c18))).symm | fail "open") dX2_given_23
theorem cn_X2_given (l : Launch) (D : va_G) (cI cZ cW cC : ClassId) (w g : Nat) (G : Nat → Int32) (f r : Nat) (hf : f < 6) (hr : r < 256) : zq_ro l D cI cZ cW cC yX2_given wsX2_given ({ frames := 0, cells := 0, slots := 0, locals := 0 } : Room) [.ref w, .int (nI f), .int (nI r)] [(w, .inr (2, [.ref g])), (g, .inl (cI, 1536, .inl G))] (fun v => v = some (.int (G (256 * f + r)))) := zq_ro_mono (c_X2_given l D cI cZ cW cC w g G (nI f) (nI r)) (fun v h => by rw [h, zg_in hf hr])
theorem w_X2_refusals__constant_RX2_29_2147483648__9aba07 : (.constant RX2 29 (-2147483648) : Cond) ∈ wsX2_refusals := by decide +kernel
set_option maxHeartbeats 4000000 in
set_option maxRecDepth 100000 in
theorem c_X2_refusals (l : Launch) (D : va_G) (cI cZ cW cC : ClassId) (w g : Nat) (G : Nat → Int32) (f : Nat) (hf : f < 6) : zq_ro l D cI cZ cW cC yX2_refusals wsX2_refusals ({ frames := 1, cells := 0, slots := 0, locals := 22 } : Room) [.ref w, .int (nI f)] [(w, .inr (2, [.ref g])), (g, .inl (cI, 1536, .inl G))] (fun v => v = some (.int (nI (fb_ct (zref G f) 256)))) := by
  refine zq_roI (own := RX2) (by decide) rfl rfl (Nat.le_of_ble_eq_true rfl) ?_
  intro p e s m below meth c Q ls hF hP hK hl ret
  obtain ⟨hx, hb, hml, hown, hts⟩ := hF
  have hl : lv_has ls 4 [(0, .ref w), (1, .int (nI f))] := hl
  refine lv_iconst (v := (0 : Int32)) hx hb dX2_refusals_0 (by decide) ?_
  refine lv_istore_n (lv' := [(2, .int (0 : Int32)), (0, .ref w), (1, .int (nI f))]) hx hb dX2_refusals_1 rfl hl (by decide) rfl (fun ls hl => ?_)
  refine lv_iconst (v := (0 : Int32)) hx hb dX2_refusals_2 (by decide) ?_
  refine lv_istore_n (lv' := [(3, .int (nI 0)), (2, .int (nI 0)), (0, .ref w), (1, .int (nI f))]) hx hb dX2_refusals_3 rfl hl (by decide) rfl (fun ls hl => ?_)
  have loop4 : ∀ (fu4 : Nat) (k : Nat) (x2 : Int32) (ls : Array Slot), (256 - k) < fu4 → (k ≤ 256) → (x2 = nI (fb_ct (zref G f) k)) → lv_has ls 4 [(0, .ref w), (1, .int (nI f)), (2, .int x2), (3, .int (nI k))] → W p l e ({ frames := 1, cells := 0, slots := 0, locals := 22 } : Room) s m ([.ref w, .int (nI f)] : List Value).toArray below meth c s.heap [] 0 0 Q (F0 m 4 ls []) := by
    intro fu4
    induction fu4 with
    | zero => intro _ _ _ hmu; exact absurd hmu (Nat.not_lt_zero _)
    | succ fu4 ih4 =>
      intro k x2 ls hmu4 hk ex2 hl
      refine lv_iload_n hx hb dX2_refusals_4 rfl (lv_at hl 3 rfl) ?_
      refine lv_sipush (v := (nI 256)) hx hb dX2_refusals_5 (by decide) ?_
      refine lv_icmp_ge (tgt := 31) hx hb dX2_refusals_8 (by decide) (fun c8 => ?_) (fun c8 => ?_)
      · have h8 := zle c8
        have hk2 : k = 256 := by have := zle c8; omega
        refine lv_iload_n hx hb dX2_refusals_31 rfl (lv_at hl 2 rfl) ?_
        exact ret _ _ _ (by rw [ex2, hk2]) dX2_refusals_32
      · have h8 := znle c8
        have hk2 := znle c8
        refine lv_aload_n hx hb dX2_refusals_11 rfl (lv_at hl 0 rfl) ?_
        refine lv_iload_n hx hb dX2_refusals_12 rfl (lv_at hl 1 rfl) ?_
        refine lv_iload_n hx hb dX2_refusals_13 rfl (lv_at hl 3 rfl) ?_
        refine zq_cV (rest := []) ⟨hx, hb, hml, hown, hts⟩ (cn_X2_given l D cI cZ cW cC w g G f k (by omega) (by omega)) (cwV 2 hts gX2_refusals_X2_given rfl rfl rfl (by decide +kernel) ⟨Nat.le_of_ble_eq_true rfl, Nat.le_of_ble_eq_true rfl⟩) hK hP 2 0 rfl rfl rfl hl.1 rfl (Nat.le_of_ble_eq_true rfl) dX2_refusals_14 ⟨Nat.le_of_ble_eq_true rfl, Nat.le_of_ble_eq_true rfl⟩ (fun v hv => ?_)
        obtain rfl := hv
        refine W.eq (g2 := F0 m 17 ls [.int (G (256 * f + k))]) rfl ?_
        refine lv_ldc (v := (-2147483648 : Int32)) hx hb hown (hts _ w_X2_refusals__constant_RX2_29_2147483648__9aba07) dX2_refusals_17 ?_
        refine lv_icmp_ne (tgt := 25) hx hb dX2_refusals_19 (by decide) (fun c19 => ?_) (fun c19 => ?_)
        · refine lv_iinc (v := (nI (k + 1))) (lv' := [(3, .int (nI (k + 1))), (0, .ref w), (1, .int (nI f)), (2, .int x2)]) hx hb dX2_refusals_25 hl (k := 3) rfl ((nI_succ _).symm) (by decide) rfl (fun ls hl => ?_)
          refine lv_goto (tgt := 4) hx hb dX2_refusals_28 (by decide) ?_
          exact ih4 (k + 1) x2 ls (by omega) (by omega) (by rw [ex2, fb_ct_succ, if_neg (by simp [zref, c19]), Nat.add_zero]) (lv_sub hl [1, 2, 3, 0] rfl)
        · refine lv_iinc (v := (x2 + 1)) (lv' := [(2, .int (x2 + 1)), (0, .ref w), (1, .int (nI f)), (3, .int (nI k))]) hx hb dX2_refusals_22 hl (k := 2) rfl (rfl) (by decide) rfl (fun ls hl => ?_)
          refine lv_iinc (v := (nI (k + 1))) (lv' := [(3, .int (nI (k + 1))), (2, .int (x2 + 1)), (0, .ref w), (1, .int (nI f))]) hx hb dX2_refusals_25 hl (k := 3) rfl ((nI_succ _).symm) (by decide) rfl (fun ls hl => ?_)
          refine lv_goto (tgt := 4) hx hb dX2_refusals_28 (by decide) ?_
          exact ih4 (k + 1) (x2 + 1) ls (by omega) (by omega) (by rw [ex2, fb_ct_succ, if_pos (by simp [zref, c19]), nI_succ]) (lv_sub hl [2, 3, 1, 0] rfl)
  exact loop4 (256 + 1) 0 0 ls (by omega) (by omega) rfl (lv_sub hl [2, 3, 1, 0] rfl)
theorem w_X2_least__constant_RX2_29_2147483648__9aba07 : (.constant RX2 29 (-2147483648) : Cond) ∈ wsX2_least := by decide +kernel
set_option maxHeartbeats 4000000 in
set_option maxRecDepth 100000 in
theorem c_X2_least (l : Launch) (D : va_G) (cI cZ cW cC : ClassId) (w g : Nat) (G : Nat → Int32) (f : Nat) (hf : f < 6) : zq_ro l D cI cZ cW cC yX2_least wsX2_least ({ frames := 1, cells := 0, slots := 0, locals := 22 } : Room) [.ref w, .int (nI f)] [(w, .inr (2, [.ref g])), (g, .inl (cI, 1536, .inl G))] (fun v => v = some (.int (zlst G f 256))) := by
  refine zq_roI (own := RX2) (by decide) rfl rfl (Nat.le_of_ble_eq_true rfl) ?_
  intro p e s m below meth c Q ls hF hP hK hl ret
  obtain ⟨hx, hb, hml, hown, hts⟩ := hF
  have hl : lv_has ls 5 [(0, .ref w), (1, .int (nI f))] := hl
  refine lv_ldc (v := (-2147483648 : Int32)) hx hb hown (hts _ w_X2_least__constant_RX2_29_2147483648__9aba07) dX2_least_0 ?_
  refine lv_istore_n (lv' := [(2, .int (-2147483648 : Int32)), (0, .ref w), (1, .int (nI f))]) hx hb dX2_least_2 rfl hl (by decide) rfl (fun ls hl => ?_)
  refine lv_iconst (v := (0 : Int32)) hx hb dX2_least_3 (by decide) ?_
  refine lv_istore_n (lv' := [(3, .int (nI 0)), (2, .int (-2147483648 : Int32)), (0, .ref w), (1, .int (nI f))]) hx hb dX2_least_4 rfl hl (by decide) rfl (fun ls hl => ?_)
  have loop5 : ∀ (fu5 : Nat) (k : Nat) (x2 : Int32) (ls : Array Slot), (256 - k) < fu5 → (k ≤ 256) → (x2 = zlst G f k) → lv_has ls 5 [(0, .ref w), (1, .int (nI f)), (2, .int x2), (3, .int (nI k))] → W p l e ({ frames := 1, cells := 0, slots := 0, locals := 22 } : Room) s m ([.ref w, .int (nI f)] : List Value).toArray below meth c s.heap [] 0 0 Q (F0 m 5 ls []) := by
    intro fu5
    induction fu5 with
    | zero => intro _ _ _ hmu; exact absurd hmu (Nat.not_lt_zero _)
    | succ fu5 ih5 =>
      intro k x2 ls hmu5 hk ex2 hl
      refine lv_iload_n hx hb dX2_least_5 rfl (lv_at hl 3 rfl) ?_
      refine lv_sipush (v := (nI 256)) hx hb dX2_least_6 (by decide) ?_
      refine lv_icmp_ge (tgt := 48) hx hb dX2_least_9 (by decide) (fun c9 => ?_) (fun c9 => ?_)
      · have h9 := zle c9
        refine lv_iload_n hx hb dX2_least_48 rfl (lv_at hl 2 rfl) ?_
        exact ret _ _ _ (by rw [ex2, show k = 256 by omega]) dX2_least_49
      · have h9 := znle c9
        refine lv_aload_n hx hb dX2_least_12 rfl (lv_at hl 0 rfl) ?_
        refine lv_iload_n hx hb dX2_least_13 rfl (lv_at hl 1 rfl) ?_
        refine lv_iload_n hx hb dX2_least_14 rfl (lv_at hl 3 rfl) ?_
        refine zq_cV (rest := []) ⟨hx, hb, hml, hown, hts⟩ (cn_X2_given l D cI cZ cW cC w g G f k (by omega) (by omega)) (cwV 2 hts gX2_least_X2_given rfl rfl rfl (by decide +kernel) ⟨Nat.le_of_ble_eq_true rfl, Nat.le_of_ble_eq_true rfl⟩) hK hP 2 0 rfl rfl rfl hl.1 rfl (Nat.le_of_ble_eq_true rfl) dX2_least_15 ⟨Nat.le_of_ble_eq_true rfl, Nat.le_of_ble_eq_true rfl⟩ (fun v hv => ?_)
        obtain rfl := hv
        refine W.eq (g2 := F0 m 18 ls [.int (G (256 * f + k))]) rfl ?_
        refine lv_istore (lv' := [(4, .int (G (256 * f + k))), (0, .ref w), (1, .int (nI f)), (2, .int x2), (3, .int (nI k))]) hx hb dX2_least_18 hl (by decide) rfl (fun ls hl => ?_)
        refine lv_iload hx hb dX2_least_20 (lv_at hl 0 rfl) ?_
        refine lv_ldc (v := (-2147483648 : Int32)) hx hb hown (hts _ w_X2_least__constant_RX2_29_2147483648__9aba07) dX2_least_22 ?_
        refine lv_icmp_eq (tgt := 42) hx hb dX2_least_24 (by decide) (fun c24 => ?_) (fun c24 => ?_)
        · refine lv_iinc (v := (nI (k + 1))) (lv' := [(3, .int (nI (k + 1))), (4, .int (G (256 * f + k))), (0, .ref w), (1, .int (nI f)), (2, .int x2)]) hx hb dX2_least_42 hl (k := 4) rfl ((nI_succ _).symm) (by decide) rfl (fun ls hl => ?_)
          refine lv_goto (tgt := 5) hx hb dX2_least_45 (by decide) ?_
          exact ih5 (k + 1) x2 ls (by omega) (by omega) (by rw [zlst, ← ex2, if_neg (fun q => q.1 c24)]) (lv_sub hl [2, 3, 4, 0] rfl)
        · refine lv_iload_n hx hb dX2_least_27 rfl (lv_at hl 3 rfl) ?_
          refine lv_ldc (v := (-2147483648 : Int32)) hx hb hown (hts _ w_X2_least__constant_RX2_29_2147483648__9aba07) dX2_least_28 ?_
          refine lv_icmp_eq (tgt := 39) hx hb dX2_least_30 (by decide) (fun c30 => ?_) (fun c30 => ?_)
          · refine lv_iload hx hb dX2_least_39 (lv_at hl 0 rfl) ?_
            refine lv_istore_n (lv' := [(2, .int (G (256 * f + k))), (4, .int (G (256 * f + k))), (0, .ref w), (1, .int (nI f)), (3, .int (nI k))]) hx hb dX2_least_41 rfl hl (by decide) rfl (fun ls hl => ?_)
            refine lv_iinc (v := (nI (k + 1))) (lv' := [(3, .int (nI (k + 1))), (2, .int (G (256 * f + k))), (4, .int (G (256 * f + k))), (0, .ref w), (1, .int (nI f))]) hx hb dX2_least_42 hl (k := 4) rfl ((nI_succ _).symm) (by decide) rfl (fun ls hl => ?_)
            refine lv_goto (tgt := 5) hx hb dX2_least_45 (by decide) ?_
            exact ih5 (k + 1) (G (256 * f + k)) ls (by omega) (by omega) (by rw [zlst, ← ex2, if_pos ⟨c24, Or.inl c30⟩]) (lv_sub hl [3, 4, 1, 0] rfl)
          · refine lv_iload hx hb dX2_least_33 (lv_at hl 0 rfl) ?_
            refine lv_iload_n hx hb dX2_least_35 rfl (lv_at hl 3 rfl) ?_
            refine lv_icmp_ge (tgt := 42) hx hb dX2_least_36 (by decide) (fun c36 => ?_) (fun c36 => ?_)
            · refine lv_iinc (v := (nI (k + 1))) (lv' := [(3, .int (nI (k + 1))), (4, .int (G (256 * f + k))), (0, .ref w), (1, .int (nI f)), (2, .int x2)]) hx hb dX2_least_42 hl (k := 4) rfl ((nI_succ _).symm) (by decide) rfl (fun ls hl => ?_)
              refine lv_goto (tgt := 5) hx hb dX2_least_45 (by decide) ?_
              exact ih5 (k + 1) x2 ls (by omega) (by omega) (by rw [zlst, ← ex2, if_neg (fun q => q.2.elim c30 (fun z => absurd c36 (Int32.not_le.mpr z)))]) (lv_sub hl [2, 3, 4, 0] rfl)
            · refine lv_iload hx hb dX2_least_39 (lv_at hl 0 rfl) ?_
              refine lv_istore_n (lv' := [(2, .int (G (256 * f + k))), (4, .int (G (256 * f + k))), (0, .ref w), (1, .int (nI f)), (3, .int (nI k))]) hx hb dX2_least_41 rfl hl (by decide) rfl (fun ls hl => ?_)
              refine lv_iinc (v := (nI (k + 1))) (lv' := [(3, .int (nI (k + 1))), (2, .int (G (256 * f + k))), (4, .int (G (256 * f + k))), (0, .ref w), (1, .int (nI f))]) hx hb dX2_least_42 hl (k := 4) rfl ((nI_succ _).symm) (by decide) rfl (fun ls hl => ?_)
              refine lv_goto (tgt := 5) hx hb dX2_least_45 (by decide) ?_
              exact ih5 (k + 1) (G (256 * f + k)) ls (by omega) (by omega) (by rw [zlst, ← ex2, if_pos ⟨c24, Or.inr (Int32.not_le.mp c36)⟩]) (lv_sub hl [3, 4, 1, 0] rfl)
  exact loop5 (256 + 1) 0 zNO ls (by omega) (by omega) rfl (lv_sub hl [2, 3, 1, 0] rfl)
theorem w_X2_most__code_Lib_Math_max_name_Lib_Math_max_code_2_some_int__b6349a : (.code Lib.Math.max.name Lib.Math.max.code 2 (some .int) : Cond) ∈ wsX2_most := by decide +kernel
theorem w_X2_most__constant_RX2_29_2147483648__9aba07 : (.constant RX2 29 (-2147483648) : Cond) ∈ wsX2_most := by decide +kernel
theorem w_X2_most__initialized_java_lang_Math__868a92 : (.initialized "java/lang/Math" : Cond) ∈ wsX2_most := by decide +kernel
theorem w_X2_most__methodLink_RX2_34_Lib_Math_max_name_2fcbd8 : (.methodLink RX2 34 Lib.Math.max.name : Cond) ∈ wsX2_most := by decide +kernel
theorem w_X2_most__static_Lib_Math_max_name_80a2ec : (.static Lib.Math.max.name : Cond) ∈ wsX2_most := by decide +kernel
set_option maxHeartbeats 4000000 in
set_option maxRecDepth 100000 in
theorem c_X2_most (l : Launch) (D : va_G) (cI cZ cW cC : ClassId) (w g : Nat) (G : Nat → Int32) (f : Nat) (hf : f < 6) : zq_ro l D cI cZ cW cC yX2_most wsX2_most ({ frames := 1, cells := 0, slots := 0, locals := 22 } : Room) [.ref w, .int (nI f)] [(w, .inr (2, [.ref g])), (g, .inl (cI, 1536, .inl G))] (fun v => v = some (.int (zmst G f 256))) := by
  refine zq_roI (own := RX2) (by decide) rfl rfl (Nat.le_of_ble_eq_true rfl) ?_
  intro p e s m below meth c Q ls hF hP hK hl ret
  obtain ⟨hx, hb, hml, hown, hts⟩ := hF
  have hl : lv_has ls 4 [(0, .ref w), (1, .int (nI f))] := hl
  refine lv_ldc (v := (-2147483648 : Int32)) hx hb hown (hts _ w_X2_most__constant_RX2_29_2147483648__9aba07) dX2_most_0 ?_
  refine lv_istore_n (lv' := [(2, .int (-2147483648 : Int32)), (0, .ref w), (1, .int (nI f))]) hx hb dX2_most_2 rfl hl (by decide) rfl (fun ls hl => ?_)
  refine lv_iconst (v := (0 : Int32)) hx hb dX2_most_3 (by decide) ?_
  refine lv_istore_n (lv' := [(3, .int (nI 0)), (2, .int (-2147483648 : Int32)), (0, .ref w), (1, .int (nI f))]) hx hb dX2_most_4 rfl hl (by decide) rfl (fun ls hl => ?_)
  have loop5 : ∀ (fu5 : Nat) (k : Nat) (x2 : Int32) (ls : Array Slot), (256 - k) < fu5 → (k ≤ 256) → (x2 = zmst G f k) → lv_has ls 4 [(0, .ref w), (1, .int (nI f)), (2, .int x2), (3, .int (nI k))] → W p l e ({ frames := 1, cells := 0, slots := 0, locals := 22 } : Room) s m ([.ref w, .int (nI f)] : List Value).toArray below meth c s.heap [] 0 0 Q (F0 m 5 ls []) := by
    intro fu5
    induction fu5 with
    | zero => intro _ _ _ hmu; exact absurd hmu (Nat.not_lt_zero _)
    | succ fu5 ih5 =>
      intro k x2 ls hmu5 hk ex2 hl
      refine lv_iload_n hx hb dX2_most_5 rfl (lv_at hl 3 rfl) ?_
      refine lv_sipush (v := (nI 256)) hx hb dX2_most_6 (by decide) ?_
      refine lv_icmp_ge (tgt := 29) hx hb dX2_most_9 (by decide) (fun c9 => ?_) (fun c9 => ?_)
      · have h9 := zle c9
        refine lv_iload_n hx hb dX2_most_29 rfl (lv_at hl 2 rfl) ?_
        exact ret _ _ _ (by rw [ex2, show k = 256 by omega]) dX2_most_30
      · have h9 := znle c9
        refine lv_iload_n hx hb dX2_most_12 rfl (lv_at hl 2 rfl) ?_
        refine lv_aload_n hx hb dX2_most_13 rfl (lv_at hl 0 rfl) ?_
        refine lv_iload_n hx hb dX2_most_14 rfl (lv_at hl 1 rfl) ?_
        refine lv_iload_n hx hb dX2_most_15 rfl (lv_at hl 3 rfl) ?_
        refine zq_cV (rest := [.int x2]) ⟨hx, hb, hml, hown, hts⟩ (cn_X2_given l D cI cZ cW cC w g G f k (by omega) (by omega)) (cwV 2 hts gX2_most_X2_given rfl rfl rfl (by decide +kernel) ⟨Nat.le_of_ble_eq_true rfl, Nat.le_of_ble_eq_true rfl⟩) hK hP 2 0 rfl rfl rfl hl.1 rfl (Nat.le_of_ble_eq_true rfl) dX2_most_16 ⟨Nat.le_of_ble_eq_true rfl, Nat.le_of_ble_eq_true rfl⟩ (fun v hv => ?_)
        obtain rfl := hv
        refine W.eq (g2 := F0 m 19 ls [.int (G (256 * f + k)), .int x2]) rfl ?_
        refine va_mmax hx hb (hml.trans hl.1.symm) hown (hts _ w_X2_most__methodLink_RX2_34_Lib_Math_max_name_2fcbd8) (hts _ w_X2_most__static_Lib_Math_max_name_80a2ec) (hts _ w_X2_most__initialized_java_lang_Math__868a92) (hts _ w_X2_most__code_Lib_Math_max_name_Lib_Math_max_code_2_some_int__b6349a) (Nat.le_of_ble_eq_true rfl) (Nat.le_of_ble_eq_true rfl) (Nat.le_of_ble_eq_true rfl) (Nat.le_of_ble_eq_true rfl) dX2_most_19 ?_
        refine lv_istore_n (lv' := [(2, .int (if x2 < (G (256 * f + k)) then (G (256 * f + k)) else x2)), (0, .ref w), (1, .int (nI f)), (3, .int (nI k))]) hx hb dX2_most_22 rfl hl (by decide) rfl (fun ls hl => ?_)
        refine lv_iinc (v := (nI (k + 1))) (lv' := [(3, .int (nI (k + 1))), (2, .int (if x2 < (G (256 * f + k)) then (G (256 * f + k)) else x2)), (0, .ref w), (1, .int (nI f))]) hx hb dX2_most_23 hl (k := 3) rfl ((nI_succ _).symm) (by decide) rfl (fun ls hl => ?_)
        refine lv_goto (tgt := 5) hx hb dX2_most_26 (by decide) ?_
        exact ih5 (k + 1) (if x2 < (G (256 * f + k)) then (G (256 * f + k)) else x2) ls (by omega) (by omega) (by rw [zmst, ← ex2]) (lv_sub hl [2, 3, 1, 0] rfl)
  exact loop5 (256 + 1) 0 zNO ls (by omega) (by omega) rfl (lv_sub hl [2, 3, 1, 0] rfl)
theorem w_X2_firstRefusal__constant_RX2_29_2147483648__9aba07 : (.constant RX2 29 (-2147483648) : Cond) ∈ wsX2_firstRefusal := by decide +kernel
set_option maxHeartbeats 4000000 in
set_option maxRecDepth 100000 in
theorem c_X2_firstRefusal (l : Launch) (D : va_G) (cI cZ cW cC : ClassId) (w g : Nat) (G : Nat → Int32) (f : Nat) (hf : f < 6) : zq_ro l D cI cZ cW cC yX2_firstRefusal wsX2_firstRefusal ({ frames := 1, cells := 0, slots := 0, locals := 22 } : Room) [.ref w, .int (nI f)] [(w, .inr (2, [.ref g])), (g, .inl (cI, 1536, .inl G))] (fun v => v = some (.int (nI (fa_first (zref G f) 256)))) := by
  refine zq_roI (own := RX2) (by decide) rfl rfl (Nat.le_of_ble_eq_true rfl) ?_
  intro p e s m below meth c Q ls hF hP hK hl ret
  obtain ⟨hx, hb, hml, hown, hts⟩ := hF
  have hl : lv_has ls 3 [(0, .ref w), (1, .int (nI f))] := hl
  refine lv_iconst (v := (0 : Int32)) hx hb dX2_firstRefusal_0 (by decide) ?_
  refine lv_istore_n (lv' := [(2, .int (nI 0)), (0, .ref w), (1, .int (nI f))]) hx hb dX2_firstRefusal_1 rfl hl (by decide) rfl (fun ls hl => ?_)
  have loop2 : ∀ (fu2 : Nat) (k : Nat) (ls : Array Slot), (256 - k) < fu2 → (k ≤ 256) → (∀ j, j < k → zref G f j = false) → lv_has ls 3 [(0, .ref w), (1, .int (nI f)), (2, .int (nI k))] → W p l e ({ frames := 1, cells := 0, slots := 0, locals := 22 } : Room) s m ([.ref w, .int (nI f)] : List Value).toArray below meth c s.heap [] 0 0 Q (F0 m 2 ls []) := by
    intro fu2
    induction fu2 with
    | zero => intro _ _ hmu; exact absurd hmu (Nat.not_lt_zero _)
    | succ fu2 ih2 =>
      intro k ls hmu2 hk hno hl
      refine lv_iload_n hx hb dX2_firstRefusal_2 rfl (lv_at hl 2 rfl) ?_
      refine lv_sipush (v := (nI 256)) hx hb dX2_firstRefusal_3 (by decide) ?_
      refine lv_icmp_ge (tgt := 28) hx hb dX2_firstRefusal_6 (by decide) (fun c6 => ?_) (fun c6 => ?_)
      · have h6 := zle c6
        refine lv_sipush (v := (nI 256)) hx hb dX2_firstRefusal_28 (by decide) ?_
        exact ret _ _ _ (by rw [zfirst_none (fun j hj => hno j (by omega))]) dX2_firstRefusal_31
      · have h6 := znle c6
        refine lv_aload_n hx hb dX2_firstRefusal_9 rfl (lv_at hl 0 rfl) ?_
        refine lv_iload_n hx hb dX2_firstRefusal_10 rfl (lv_at hl 1 rfl) ?_
        refine lv_iload_n hx hb dX2_firstRefusal_11 rfl (lv_at hl 2 rfl) ?_
        refine zq_cV (rest := []) ⟨hx, hb, hml, hown, hts⟩ (cn_X2_given l D cI cZ cW cC w g G f k (by omega) (by omega)) (cwV 2 hts gX2_firstRefusal_X2_given rfl rfl rfl (by decide +kernel) ⟨Nat.le_of_ble_eq_true rfl, Nat.le_of_ble_eq_true rfl⟩) hK hP 2 0 rfl rfl rfl hl.1 rfl (Nat.le_of_ble_eq_true rfl) dX2_firstRefusal_12 ⟨Nat.le_of_ble_eq_true rfl, Nat.le_of_ble_eq_true rfl⟩ (fun v hv => ?_)
        obtain rfl := hv
        refine W.eq (g2 := F0 m 15 ls [.int (G (256 * f + k))]) rfl ?_
        refine lv_ldc (v := (-2147483648 : Int32)) hx hb hown (hts _ w_X2_firstRefusal__constant_RX2_29_2147483648__9aba07) dX2_firstRefusal_15 ?_
        refine lv_icmp_ne (tgt := 22) hx hb dX2_firstRefusal_17 (by decide) (fun c17 => ?_) (fun c17 => ?_)
        · refine lv_iinc (v := (nI (k + 1))) (lv' := [(2, .int (nI (k + 1))), (0, .ref w), (1, .int (nI f))]) hx hb dX2_firstRefusal_22 hl (k := 2) rfl ((nI_succ _).symm) (by decide) rfl (fun ls hl => ?_)
          refine lv_goto (tgt := 2) hx hb dX2_firstRefusal_25 (by decide) ?_
          exact ih2 (k + 1) ls (by omega) (by omega) (lt_s hno (by simp [zref, c17])) (lv_sub hl [1, 2, 0] rfl)
        · refine lv_iload_n hx hb dX2_firstRefusal_20 rfl (lv_at hl 2 rfl) ?_
          exact ret _ _ _ (by rw [zfirst_eq (k := k) (by omega) (by simp [zref, c17]) hno]) dX2_firstRefusal_21
  exact loop2 (256 + 1) 0 ls (by omega) (by omega) (fun j hj => absurd hj (Nat.not_lt_zero j)) (lv_sub hl [1, 2, 0] rfl)
theorem w_X2_refusesFrom__constant_RX2_29_2147483648__9aba07 : (.constant RX2 29 (-2147483648) : Cond) ∈ wsX2_refusesFrom := by decide +kernel
set_option maxHeartbeats 4000000 in
set_option maxRecDepth 100000 in
theorem c_X2_refusesFrom (l : Launch) (D : va_G) (cI cZ cW cC : ClassId) (w g : Nat) (G : Nat → Int32) (f : Nat) (hf : f < 6) : zq_ro l D cI cZ cW cC yX2_refusesFrom wsX2_refusesFrom ({ frames := 2, cells := 0, slots := 0, locals := 45 } : Room) [.ref w, .int (nI f)] [(w, .inr (2, [.ref g])), (g, .inl (cI, 1536, .inl G))] (fun v => v = some (.int (if fb_ct (zref G f) 256 = 256 - fa_first (zref G f) 256 / 16 * 16 then nI (fa_first (zref G f) 256 / 16) else zNO))) := by
  refine zq_roI (own := RX2) (by decide) rfl rfl (Nat.le_of_ble_eq_true rfl) ?_
  intro p e s m below meth c Q ls hF hP hK hl ret
  obtain ⟨hx, hb, hml, hown, hts⟩ := hF
  have hl : lv_has ls 3 [(0, .ref w), (1, .int (nI f))] := hl
  have hfl := fa_first_le (zref G f) 256
  have hcl := fb_ct_le (zref G f) 256
  refine lv_aload_n hx hb dX2_refusesFrom_0 rfl (lv_at hl 0 rfl) ?_
  refine lv_iload_n hx hb dX2_refusesFrom_1 rfl (lv_at hl 1 rfl) ?_
  refine zq_cV (rest := []) ⟨hx, hb, hml, hown, hts⟩ (c_X2_firstRefusal l D cI cZ cW cC w g G f hf) (cwV 1 hts gX2_refusesFrom_X2_firstRefusal rfl rfl rfl (by decide +kernel) ⟨Nat.le_of_ble_eq_true rfl, Nat.le_of_ble_eq_true rfl⟩) hK hP 2 0 rfl rfl rfl hl.1 rfl (Nat.le_of_ble_eq_true rfl) dX2_refusesFrom_2 ⟨Nat.le_of_ble_eq_true rfl, Nat.le_of_ble_eq_true rfl⟩ (fun v hv => ?_)
  obtain rfl := hv
  refine W.eq (g2 := F0 m 5 ls [.int (nI (fa_first (zref G f) 256))]) rfl ?_
  refine lv_bipush (v := (nI 16)) hx hb dX2_refusesFrom_5 (by decide) ?_
  refine lv_idiv hx hb dX2_refusesFrom_7 (by decide) ?_
  refine zq_te (y := (nI (fa_first (zref G f) 256 / 16))) (pk_div (by omega) (by omega) (by omega)) ?_
  refine lv_istore_n (lv' := [(2, .int (nI (fa_first (zref G f) 256 / 16))), (0, .ref w), (1, .int (nI f))]) hx hb dX2_refusesFrom_8 rfl hl (by decide) rfl (fun ls hl => ?_)
  refine lv_aload_n hx hb dX2_refusesFrom_9 rfl (lv_at hl 1 rfl) ?_
  refine lv_iload_n hx hb dX2_refusesFrom_10 rfl (lv_at hl 2 rfl) ?_
  refine zq_cV (rest := []) ⟨hx, hb, hml, hown, hts⟩ (c_X2_refusals l D cI cZ cW cC w g G f hf) (cwV 1 hts gX2_refusesFrom_X2_refusals rfl rfl rfl (by decide +kernel) ⟨Nat.le_of_ble_eq_true rfl, Nat.le_of_ble_eq_true rfl⟩) hK hP 2 0 rfl rfl rfl hl.1 rfl (Nat.le_of_ble_eq_true rfl) dX2_refusesFrom_11 ⟨Nat.le_of_ble_eq_true rfl, Nat.le_of_ble_eq_true rfl⟩ (fun v hv => ?_)
  obtain rfl := hv
  refine W.eq (g2 := F0 m 14 ls [.int (nI (fb_ct (zref G f) 256))]) rfl ?_
  refine lv_sipush (v := (nI 256)) hx hb dX2_refusesFrom_14 (by decide) ?_
  refine lv_iload_n hx hb dX2_refusesFrom_17 rfl (lv_at hl 0 rfl) ?_
  refine lv_bipush (v := (nI 16)) hx hb dX2_refusesFrom_18 (by decide) ?_
  refine lv_imul hx hb dX2_refusesFrom_20 ?_
  refine zq_te (y := (nI (fa_first (zref G f) 256 / 16 * 16))) (pk_mul _ _) ?_
  refine lv_isub hx hb dX2_refusesFrom_21 ?_
  refine zq_te (y := (nI (256 - fa_first (zref G f) 256 / 16 * 16))) (pk_sub (by omega)) ?_
  refine lv_icmp_ne (tgt := 29) hx hb dX2_refusesFrom_22 (by decide) (fun c22 => ?_) (fun c22 => ?_)
  · have h22 := zne c22
    refine lv_ldc (v := (-2147483648 : Int32)) hx hb hown (hts _ w_X2_refusesFrom__constant_RX2_29_2147483648__9aba07) dX2_refusesFrom_29 ?_
    exact ret _ _ _ (by rw [if_neg h22]) dX2_refusesFrom_31
  · have h22 := zeq c22
    refine lv_iload_n hx hb dX2_refusesFrom_25 rfl (lv_at hl 0 rfl) ?_
    refine lv_goto (tgt := 31) hx hb dX2_refusesFrom_26 (by decide) ?_
    exact ret _ _ _ (by rw [if_pos h22]) dX2_refusesFrom_31
set_option maxHeartbeats 4000000 in
set_option maxRecDepth 100000 in
theorem c_X2_commonDivisor (l : Launch) (D : va_G) (cI cZ cW cC : ClassId) (a b : Nat) (ha : a ≤ 1000000) (hb0 : b ≤ 1000000) : zq_ro l D cI cZ cW cC yX2_commonDivisor wsX2_commonDivisor ({ frames := 0, cells := 0, slots := 0, locals := 0 } : Room) [.int (nI a), .int (nI b)] [] (fun v => v = some (.int (nI (Nat.gcd a b)))) := by
  refine zq_roI (own := RX2) (by decide) rfl rfl (Nat.le_of_ble_eq_true rfl) ?_
  intro p e s m below meth c Q ls hF hP hK hl ret
  obtain ⟨hx, hb, hml, hown, hts⟩ := hF
  have hl : lv_has ls 6 [(0, .int (nI a)), (1, .int (nI b))] := hl
  refine lv_iload_n hx hb dX2_commonDivisor_0 rfl (lv_at hl 0 rfl) ?_
  refine lv_istore_n (lv' := [(2, .int (nI a)), (0, .int (nI a)), (1, .int (nI b))]) hx hb dX2_commonDivisor_1 rfl hl (by decide) rfl (fun ls hl => ?_)
  refine lv_iload_n hx hb dX2_commonDivisor_2 rfl (lv_at hl 2 rfl) ?_
  refine lv_istore_n (lv' := [(3, .int (nI b)), (2, .int (nI a)), (0, .int (nI a)), (1, .int (nI b))]) hx hb dX2_commonDivisor_3 rfl hl (by decide) rfl (fun ls hl => ?_)
  refine lv_iconst (v := (0 : Int32)) hx hb dX2_commonDivisor_4 (by decide) ?_
  refine lv_istore (lv' := [(4, .int (nI 0)), (3, .int (nI b)), (2, .int (nI a)), (0, .int (nI a)), (1, .int (nI b))]) hx hb dX2_commonDivisor_5 hl (by decide) rfl (fun ls hl => ?_)
  have loop7 : ∀ (fu7 : Nat) (i x y : Nat) (ls : Array Slot), (64 - i) < fu7 → (i ≤ 64) → (zEu a b i x y) → lv_has ls 6 [(2, .int (nI x)), (3, .int (nI y)), (4, .int (nI i))] → W p l e ({ frames := 0, cells := 0, slots := 0, locals := 0 } : Room) s m ([.int (nI a), .int (nI b)] : List Value).toArray below meth c s.heap [] 0 0 Q (F0 m 7 ls []) := by
    intro fu7
    induction fu7 with
    | zero => intro _ _ _ _ hmu; exact absurd hmu (Nat.not_lt_zero _)
    | succ fu7 ih7 =>
      intro i x y ls hmu7 hi hE hl
      have hX := hE.2.1
      have hY := hE.2.2.1
      refine lv_iload hx hb dX2_commonDivisor_7 (lv_at hl 2 rfl) ?_
      refine lv_bipush (v := (nI 64)) hx hb dX2_commonDivisor_9 (by decide) ?_
      refine lv_icmp_ge (tgt := 34) hx hb dX2_commonDivisor_11 (by decide) (fun c11 => ?_) (fun c11 => ?_)
      · have h11 := zle c11
        have hy0 := zEu_64 hE (by omega)
        subst hy0
        refine lv_iload_n hx hb dX2_commonDivisor_34 rfl (lv_at hl 0 rfl) ?_
        exact ret _ _ _ (by rw [zEu_z hE]) dX2_commonDivisor_35
      · have h11 := znle c11
        refine lv_iload_n hx hb dX2_commonDivisor_14 rfl (lv_at hl 1 rfl) ?_
        refine lv_if_eq (tgt := 34) hx hb dX2_commonDivisor_15 (by decide) (fun c15 => ?_) (fun c15 => ?_)
        · have hy0 : y = 0 := zeq (c15.trans nI_0.symm)
          subst hy0
          refine lv_iload_n hx hb dX2_commonDivisor_34 rfl (lv_at hl 0 rfl) ?_
          exact ret _ _ _ (by rw [zEu_z hE]) dX2_commonDivisor_35
        · have hy0 : y ≠ 0 := fun q => c15 (by rw [q]; rfl)
          refine lv_iload_n hx hb dX2_commonDivisor_18 rfl (lv_at hl 0 rfl) ?_
          refine lv_iload_n hx hb dX2_commonDivisor_19 rfl (lv_at hl 1 rfl) ?_
          refine lv_irem hx hb dX2_commonDivisor_20 c15 ?_
          refine zq_te (y := (nI (x % y))) (pk_rem (by omega) (by omega) (by omega)) ?_
          refine lv_istore (lv' := [(5, .int (nI (x % y))), (2, .int (nI x)), (3, .int (nI y)), (4, .int (nI i))]) hx hb dX2_commonDivisor_21 hl (by decide) rfl (fun ls hl => ?_)
          refine lv_iload_n hx hb dX2_commonDivisor_23 rfl (lv_at hl 2 rfl) ?_
          refine lv_istore_n (lv' := [(2, .int (nI y)), (5, .int (nI (x % y))), (3, .int (nI y)), (4, .int (nI i))]) hx hb dX2_commonDivisor_24 rfl hl (by decide) rfl (fun ls hl => ?_)
          refine lv_iload hx hb dX2_commonDivisor_25 (lv_at hl 1 rfl) ?_
          refine lv_istore_n (lv' := [(3, .int (nI (x % y))), (2, .int (nI y)), (5, .int (nI (x % y))), (4, .int (nI i))]) hx hb dX2_commonDivisor_27 rfl hl (by decide) rfl (fun ls hl => ?_)
          refine lv_iinc (v := (nI (i + 1))) (lv' := [(4, .int (nI (i + 1))), (3, .int (nI (x % y))), (2, .int (nI y)), (5, .int (nI (x % y)))]) hx hb dX2_commonDivisor_28 hl (k := 3) rfl ((nI_succ _).symm) (by decide) rfl (fun ls hl => ?_)
          refine lv_goto (tgt := 7) hx hb dX2_commonDivisor_31 (by decide) ?_
          exact ih7 (i + 1) y (x % y) ls (by omega) (by omega) (zEu_s hE (by omega)) (lv_sub hl [2, 1, 0] rfl)
  exact loop7 (64 + 1) 0 a b ls (by omega) (by omega) (zEu_0 ha hb0) (lv_sub hl [2, 1, 0] rfl)
theorem w_X2_greatestDivisor__code_Lib_Math_abs_name_Lib_Math_abs_code_1_some_int__9541a2 : (.code Lib.Math.abs.name Lib.Math.abs.code 1 (some .int) : Cond) ∈ wsX2_greatestDivisor := by decide +kernel
theorem w_X2_greatestDivisor__constant_RX2_29_2147483648__9aba07 : (.constant RX2 29 (-2147483648) : Cond) ∈ wsX2_greatestDivisor := by decide +kernel
theorem w_X2_greatestDivisor__initialized_java_lang_Math__868a92 : (.initialized "java/lang/Math" : Cond) ∈ wsX2_greatestDivisor := by decide +kernel
theorem w_X2_greatestDivisor__methodLink_RX2_39_Lib_Math_abs_name_0dae1b : (.methodLink RX2 39 Lib.Math.abs.name : Cond) ∈ wsX2_greatestDivisor := by decide +kernel
theorem w_X2_greatestDivisor__static_Lib_Math_abs_name_7973de : (.static Lib.Math.abs.name : Cond) ∈ wsX2_greatestDivisor := by decide +kernel
set_option maxHeartbeats 4000000 in
set_option maxRecDepth 100000 in
theorem c_X2_greatestDivisor (l : Launch) (D : va_G) (cI cZ cW cC : ClassId) (w g : Nat) (G : Nat → Int32) (f : Nat) (hf : f < 6) (hB : zB G 1536) : zq_ro l D cI cZ cW cC yX2_greatestDivisor wsX2_greatestDivisor ({ frames := 1, cells := 0, slots := 0, locals := 25 } : Room) [.ref w, .int (nI f)] [(w, .inr (2, [.ref g])), (g, .inl (cI, 1536, .inl G))] (fun v => v = some (.int (nI (zgd (zgc G f 256) 1000)))) := by
  refine zq_roI (own := RX2) (by decide) rfl rfl (Nat.le_of_ble_eq_true rfl) ?_
  intro p e s m below meth c Q ls hF hP hK hl ret
  obtain ⟨hx, hb, hml, hown, hts⟩ := hF
  have hl : lv_has ls 5 [(0, .ref w), (1, .int (nI f))] := hl
  refine lv_iconst (v := (0 : Int32)) hx hb dX2_greatestDivisor_0 (by decide) ?_
  refine lv_istore_n (lv' := [(2, .int (nI 0)), (0, .ref w), (1, .int (nI f))]) hx hb dX2_greatestDivisor_1 rfl hl (by decide) rfl (fun ls hl => ?_)
  refine lv_iconst (v := (0 : Int32)) hx hb dX2_greatestDivisor_2 (by decide) ?_
  refine lv_istore_n (lv' := [(3, .int (nI 0)), (2, .int (nI 0)), (0, .ref w), (1, .int (nI f))]) hx hb dX2_greatestDivisor_3 rfl hl (by decide) rfl (fun ls hl => ?_)
  have loop4 : ∀ (fu4 : Nat) (k : Nat) (ls : Array Slot), (256 - k) < fu4 → (k ≤ 256) → lv_has ls 5 [(0, .ref w), (1, .int (nI f)), (2, .int (nI (zgc G f k))), (3, .int (nI k))] → W p l e ({ frames := 1, cells := 0, slots := 0, locals := 25 } : Room) s m ([.ref w, .int (nI f)] : List Value).toArray below meth c s.heap [] 0 0 Q (F0 m 4 ls []) := by
    intro fu4
    induction fu4 with
    | zero => intro _ _ hmu; exact absurd hmu (Nat.not_lt_zero _)
    | succ fu4 ih4 =>
      intro k ls hmu4 hk hl
      have hgc := zgc_le hB hf k hk
      refine lv_iload_n hx hb dX2_greatestDivisor_4 rfl (lv_at hl 3 rfl) ?_
      refine lv_sipush (v := (nI 256)) hx hb dX2_greatestDivisor_5 (by decide) ?_
      refine lv_icmp_ge (tgt := 42) hx hb dX2_greatestDivisor_8 (by decide) (fun c8 => ?_) (fun c8 => ?_)
      · have h8 := zle c8
        have hk2 : k = 256 := by omega
        subst hk2
        refine lv_sipush (v := (nI 1000)) hx hb dX2_greatestDivisor_42 (by decide) ?_
        refine lv_istore_n (lv' := [(3, .int (nI 1000)), (0, .ref w), (1, .int (nI f)), (2, .int (nI (zgc G f 256)))]) hx hb dX2_greatestDivisor_45 rfl hl (by decide) rfl (fun ls hl => ?_)
        have loop46 : ∀ (fu46 : Nat) (n2 : Nat) (ls : Array Slot), (n2) < fu46 → (n2 ≤ 1000) → (1 ≤ n2) → (zgd (zgc G f 256) 1000 = zgd (zgc G f 256) n2) → lv_has ls 5 [(2, .int (nI (zgc G f 256))), (3, .int (nI n2))] → W p l e ({ frames := 1, cells := 0, slots := 0, locals := 25 } : Room) s m ([.ref w, .int (nI f)] : List Value).toArray below meth c s.heap [] 0 0 Q (F0 m 46 ls []) := by
          intro fu46
          induction fu46 with
          | zero => intro _ _ hmu; exact absurd hmu (Nat.not_lt_zero _)
          | succ fu46 ih46 =>
            intro n2 ls hmu46 hn2 hn3 hz hl
            refine lv_iload_n hx hb dX2_greatestDivisor_46 rfl (lv_at hl 1 rfl) ?_
            refine lv_iconst (v := (nI 1)) hx hb dX2_greatestDivisor_47 (by decide) ?_
            refine lv_icmp_le (tgt := 65) hx hb dX2_greatestDivisor_48 (by decide) (fun c48 => ?_) (fun c48 => ?_)
            · have h48 := zle c48
              refine lv_iconst (v := (1 : Int32)) hx hb dX2_greatestDivisor_65 (by decide) ?_
              exact ret _ _ _ (by rw [hz, show n2 = 1 by omega, zgd_yes (by omega) (Nat.mod_one _)]; rfl) dX2_greatestDivisor_66
            · have h48 := znle c48
              refine lv_iload_n hx hb dX2_greatestDivisor_51 rfl (lv_at hl 0 rfl) ?_
              refine lv_iload_n hx hb dX2_greatestDivisor_52 rfl (lv_at hl 1 rfl) ?_
              refine lv_irem hx hb dX2_greatestDivisor_53 (nI_ne0 (by omega) (by omega)) ?_
              refine zq_te (y := (nI (zgc G f 256 % n2))) (pk_rem (by omega) (by omega) (by omega)) ?_
              refine lv_if_ne (tgt := 59) hx hb dX2_greatestDivisor_54 (by decide) (fun c54 => ?_) (fun c54 => ?_)
              · refine lv_iinc (v := (nI (n2 - 1))) (lv' := [(3, .int (nI (n2 - 1))), (2, .int (nI (zgc G f 256)))]) hx hb dX2_greatestDivisor_59 hl (k := 1) rfl (sb_m1 (by omega)) (by decide) rfl (fun ls hl => ?_)
                refine lv_goto (tgt := 46) hx hb dX2_greatestDivisor_62 (by decide) ?_
                exact ih46 (n2 - 1) ls (by omega) (by omega) (by omega) (by rw [hz, zgd_no hn3 (fun q => c54 (by rw [q]; rfl))]) (lv_sub hl [1, 0] rfl)
              · refine lv_iload_n hx hb dX2_greatestDivisor_57 rfl (lv_at hl 1 rfl) ?_
                exact ret _ _ _ (by have h54 : zgc G f 256 % n2 = 0 := zeq (c54.trans nI_0.symm) (by have := Nat.mod_lt (zgc G f 256) (show n2 > 0 by omega); omega); rw [hz, zgd_yes hn3 h54]) dX2_greatestDivisor_58
        exact loop46 (1000 + 1) 1000 ls (by omega) (by omega) (by omega) rfl (lv_sub hl [3, 0] rfl)
      · have h8 := znle c8
        refine lv_aload_n hx hb dX2_greatestDivisor_11 rfl (lv_at hl 0 rfl) ?_
        refine lv_iload_n hx hb dX2_greatestDivisor_12 rfl (lv_at hl 1 rfl) ?_
        refine lv_iload_n hx hb dX2_greatestDivisor_13 rfl (lv_at hl 3 rfl) ?_
        refine zq_cV (rest := []) ⟨hx, hb, hml, hown, hts⟩ (cn_X2_given l D cI cZ cW cC w g G f k (by omega) (by omega)) (cwV 2 hts gX2_greatestDivisor_X2_given rfl rfl rfl (by decide +kernel) ⟨Nat.le_of_ble_eq_true rfl, Nat.le_of_ble_eq_true rfl⟩) hK hP 2 0 rfl rfl rfl hl.1 rfl (Nat.le_of_ble_eq_true rfl) dX2_greatestDivisor_14 ⟨Nat.le_of_ble_eq_true rfl, Nat.le_of_ble_eq_true rfl⟩ (fun v hv => ?_)
        obtain rfl := hv
        refine W.eq (g2 := F0 m 17 ls [.int (G (256 * f + k))]) rfl ?_
        refine lv_istore (lv' := [(4, .int (G (256 * f + k))), (0, .ref w), (1, .int (nI f)), (2, .int (nI (zgc G f k))), (3, .int (nI k))]) hx hb dX2_greatestDivisor_17 hl (by decide) rfl (fun ls hl => ?_)
        refine lv_iload hx hb dX2_greatestDivisor_19 (lv_at hl 0 rfl) ?_
        refine lv_ldc (v := (-2147483648 : Int32)) hx hb hown (hts _ w_X2_greatestDivisor__constant_RX2_29_2147483648__9aba07) dX2_greatestDivisor_21 ?_
        refine lv_icmp_eq (tgt := 36) hx hb dX2_greatestDivisor_23 (by decide) (fun c23 => ?_) (fun c23 => ?_)
        · refine lv_iinc (v := (nI (k + 1))) (lv' := [(3, .int (nI (k + 1))), (4, .int (G (256 * f + k))), (0, .ref w), (1, .int (nI f)), (2, .int (nI (zgc G f k)))]) hx hb dX2_greatestDivisor_36 hl (k := 4) rfl ((nI_succ _).symm) (by decide) rfl (fun ls hl => ?_)
          refine lv_goto (tgt := 4) hx hb dX2_greatestDivisor_39 (by decide) ?_
          refine ih4 (k + 1) ls (by omega) (by omega) ?_
          rw [show zgc G f (k + 1) = (zgc G f k) by rw [zgc, if_pos c23]]
          exact lv_sub hl [2, 3, 4, 0] rfl
        · have hb1 := (hB (256 * f + k) (by omega)).resolve_left c23
          have hb2 : (G (256 * f + k)).toInt.natAbs ≤ 1000000 := by omega
          refine lv_iload hx hb dX2_greatestDivisor_26 (lv_at hl 0 rfl) ?_
          refine va_mabs hx hb (hml.trans hl.1.symm) hown (hts _ w_X2_greatestDivisor__methodLink_RX2_39_Lib_Math_abs_name_0dae1b) (hts _ w_X2_greatestDivisor__static_Lib_Math_abs_name_7973de) (hts _ w_X2_greatestDivisor__initialized_java_lang_Math__868a92) (hts _ w_X2_greatestDivisor__code_Lib_Math_abs_name_Lib_Math_abs_code_1_some_int__9541a2) (Nat.le_of_ble_eq_true rfl) (Nat.le_of_ble_eq_true rfl) (Nat.le_of_ble_eq_true rfl) (Nat.le_of_ble_eq_true rfl) dX2_greatestDivisor_28 ?_
          refine zq_te (y := (nI (G (256 * f + k)).toInt.natAbs)) (zabs c23) ?_
          refine lv_iload_n hx hb dX2_greatestDivisor_31 rfl (lv_at hl 3 rfl) ?_
          refine zq_cS (rest := []) ⟨hx, hb, hml, hown, hts⟩ (c_X2_commonDivisor l D cI cZ cW cC ((G (256 * f + k)).toInt.natAbs) (zgc G f k) (by omega) (by omega)) (va_cwS 2 hts gX2_greatestDivisor_X2_commonDivisor rfl rfl rfl (by decide +kernel) ⟨Nat.le_of_ble_eq_true rfl, Nat.le_of_ble_eq_true rfl⟩) hK (fun k q h => by simp at h) rfl hl.1 rfl (Nat.le_of_ble_eq_true rfl) dX2_greatestDivisor_32 ⟨Nat.le_of_ble_eq_true rfl, Nat.le_of_ble_eq_true rfl⟩ (fun v hv => ?_)
          obtain rfl := hv
          refine W.eq (g2 := F0 m 35 ls [.int (nI (Nat.gcd ((G (256 * f + k)).toInt.natAbs) (zgc G f k)))]) rfl ?_
          refine lv_istore_n (lv' := [(2, .int (nI (Nat.gcd ((G (256 * f + k)).toInt.natAbs) (zgc G f k)))), (4, .int (G (256 * f + k))), (0, .ref w), (1, .int (nI f)), (3, .int (nI k))]) hx hb dX2_greatestDivisor_35 rfl hl (by decide) rfl (fun ls hl => ?_)
          refine lv_iinc (v := (nI (k + 1))) (lv' := [(3, .int (nI (k + 1))), (2, .int (nI (Nat.gcd ((G (256 * f + k)).toInt.natAbs) (zgc G f k)))), (4, .int (G (256 * f + k))), (0, .ref w), (1, .int (nI f))]) hx hb dX2_greatestDivisor_36 hl (k := 4) rfl ((nI_succ _).symm) (by decide) rfl (fun ls hl => ?_)
          refine lv_goto (tgt := 4) hx hb dX2_greatestDivisor_39 (by decide) ?_
          refine ih4 (k + 1) ls (by omega) (by omega) ?_
          rw [show zgc G f (k + 1) = (Nat.gcd ((G (256 * f + k)).toInt.natAbs) (zgc G f k)) by rw [zgc, if_neg c23]]
          exact lv_sub hl [3, 4, 1, 0] rfl
  exact loop4 (256 + 1) 0 ls (by omega) (by omega) (lv_sub hl [2, 3, 1, 0] rfl)
