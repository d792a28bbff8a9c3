/-! statics of WordsBeside, World: reading methods -/
set_option maxHeartbeats 4000000 in
set_option maxRecDepth 100000 in
theorem c_X3_isFunction (l : Launch) (D : va_G) (cI cZ cW cC : ClassId) (x : Int32) : zq_ro l D cI cZ cW cC yX3_isFunction wsX3_isFunction ({ frames := 0, cells := 0, slots := 0, locals := 0 } : Room) [.int x] [] (fun v => (v = some (.int 1) ∧ zr 6 x) ∨ (v = some (.int 0) ∧ ¬ zr 6 x)) := by
  refine zq_roZ (own := RX3) (by decide) rfl rfl (Nat.le_of_ble_eq_true rfl) ?_
  intro p e s m below meth c Q ls hF hP hK hl ret
  obtain ⟨hx, hb, hml, hown, hts⟩ := hF
  have hl : lv_has ls 1 [(0, .int x)] := hl
  refine lv_iload_n hx hb dX3_isFunction_0 rfl (lv_at hl 0 rfl) ?_
  refine lv_if_lt (tgt := 14) hx hb dX3_isFunction_1 (by decide) (fun c1 => ?_) (fun c1 => ?_)
  · refine lv_iconst (v := (0 : Int32)) hx hb dX3_isFunction_14 (by decide) ?_
    exact ret _ _ _ (Or.inl rfl) (by first | exact Or.inr ⟨rfl, zr_lo c1⟩ | exact Or.inr ⟨rfl, zr_hi c7⟩ | exact Or.inl ⟨rfl, zr_of c1 c7⟩) dX3_isFunction_15
  · refine lv_iload_n hx hb dX3_isFunction_4 rfl (lv_at hl 0 rfl) ?_
    refine lv_bipush (v := (nI 6)) hx hb dX3_isFunction_5 (by decide) ?_
    refine lv_icmp_ge (tgt := 14) hx hb dX3_isFunction_7 (by decide) (fun c7 => ?_) (fun c7 => ?_)
    · refine lv_iconst (v := (0 : Int32)) hx hb dX3_isFunction_14 (by decide) ?_
      exact ret _ _ _ (Or.inl rfl) (by first | exact Or.inr ⟨rfl, zr_lo c1⟩ | exact Or.inr ⟨rfl, zr_hi c7⟩ | exact Or.inl ⟨rfl, zr_of c1 c7⟩) dX3_isFunction_15
    · refine lv_iconst (v := (1 : Int32)) hx hb dX3_isFunction_10 (by decide) ?_
      refine lv_goto (tgt := 15) hx hb dX3_isFunction_11 (by decide) ?_
      exact ret _ _ _ (Or.inr rfl) (by first | exact Or.inr ⟨rfl, zr_lo c1⟩ | exact Or.inr ⟨rfl, zr_hi c7⟩ | exact Or.inl ⟨rfl, zr_of c1 c7⟩) dX3_isFunction_15
set_option maxHeartbeats 4000000 in
set_option maxRecDepth 100000 in
theorem c_X3_isRun (l : Launch) (D : va_G) (cI cZ cW cC : ClassId) (x : Int32) : zq_ro l D cI cZ cW cC yX3_isRun wsX3_isRun ({ frames := 0, cells := 0, slots := 0, locals := 0 } : Room) [.int x] [] (fun v => (v = some (.int 1) ∧ zr 256 x) ∨ (v = some (.int 0) ∧ ¬ zr 256 x)) := by
  refine zq_roZ (own := RX3) (by decide) rfl rfl (Nat.le_of_ble_eq_true rfl) ?_
  intro p e s m below meth c Q ls hF hP hK hl ret
  obtain ⟨hx, hb, hml, hown, hts⟩ := hF
  have hl : lv_has ls 1 [(0, .int x)] := hl
  refine lv_iload_n hx hb dX3_isRun_0 rfl (lv_at hl 0 rfl) ?_
  refine lv_if_lt (tgt := 15) hx hb dX3_isRun_1 (by decide) (fun c1 => ?_) (fun c1 => ?_)
  · refine lv_iconst (v := (0 : Int32)) hx hb dX3_isRun_15 (by decide) ?_
    exact ret _ _ _ (Or.inl rfl) (by first | exact Or.inr ⟨rfl, zr_lo c1⟩ | exact Or.inr ⟨rfl, zr_hi c7⟩ | exact Or.inl ⟨rfl, zr_of c1 c7⟩ | exact Or.inr ⟨rfl, zr_hi c8⟩ | exact Or.inl ⟨rfl, zr_of c1 c8⟩) dX3_isRun_16
  · refine lv_iload_n hx hb dX3_isRun_4 rfl (lv_at hl 0 rfl) ?_
    refine lv_sipush (v := (nI 256)) hx hb dX3_isRun_5 (by decide) ?_
    refine lv_icmp_ge (tgt := 15) hx hb dX3_isRun_8 (by decide) (fun c8 => ?_) (fun c8 => ?_)
    · refine lv_iconst (v := (0 : Int32)) hx hb dX3_isRun_15 (by decide) ?_
      exact ret _ _ _ (Or.inl rfl) (by first | exact Or.inr ⟨rfl, zr_lo c1⟩ | exact Or.inr ⟨rfl, zr_hi c7⟩ | exact Or.inl ⟨rfl, zr_of c1 c7⟩ | exact Or.inr ⟨rfl, zr_hi c8⟩ | exact Or.inl ⟨rfl, zr_of c1 c8⟩) dX3_isRun_16
    · refine lv_iconst (v := (1 : Int32)) hx hb dX3_isRun_11 (by decide) ?_
      refine lv_goto (tgt := 16) hx hb dX3_isRun_12 (by decide) ?_
      exact ret _ _ _ (Or.inr rfl) (by first | exact Or.inr ⟨rfl, zr_lo c1⟩ | exact Or.inr ⟨rfl, zr_hi c7⟩ | exact Or.inl ⟨rfl, zr_of c1 c7⟩ | exact Or.inr ⟨rfl, zr_hi c8⟩ | exact Or.inl ⟨rfl, zr_of c1 c8⟩) dX3_isRun_16
theorem w_X3_isWithinLimit__constant_RX3_170_1000000__b799e6 : (.constant RX3 170 (-1000000) : Cond) ∈ wsX3_isWithinLimit := by decide +kernel
theorem w_X3_isWithinLimit__constant_RX3_171_1000000__497f92 : (.constant RX3 171 (1000000) : Cond) ∈ wsX3_isWithinLimit := by decide +kernel
set_option maxHeartbeats 4000000 in
set_option maxRecDepth 100000 in
theorem c_X3_isWithinLimit (l : Launch) (D : va_G) (cI cZ cW cC : ClassId) (x : Int32) : zq_ro l D cI cZ cW cC yX3_isWithinLimit wsX3_isWithinLimit ({ frames := 0, cells := 0, slots := 0, locals := 0 } : Room) [.int x] [] (fun v => (v = some (.int 1) ∧ (-1000000 : Int32) ≤ x ∧ x ≤ 1000000) ∨ (v = some (.int 0) ∧ (x < (-1000000 : Int32) ∨ (1000000 : Int32) < x))) := by
  refine zq_roZ (own := RX3) (by decide) rfl rfl (Nat.le_of_ble_eq_true rfl) ?_
  intro p e s m below meth c Q ls hF hP hK hl ret
  obtain ⟨hx, hb, hml, hown, hts⟩ := hF
  have hl : lv_has ls 1 [(0, .int x)] := hl
  refine lv_iload_n hx hb dX3_isWithinLimit_0 rfl (lv_at hl 0 rfl) ?_
  refine lv_ldc (v := (-1000000 : Int32)) hx hb hown (hts _ w_X3_isWithinLimit__constant_RX3_170_1000000__b799e6) dX3_isWithinLimit_1 ?_
  refine lv_icmp_lt (tgt := 16) hx hb dX3_isWithinLimit_3 (by decide) (fun c3 => ?_) (fun c3 => ?_)
  · refine lv_iconst (v := (0 : Int32)) hx hb dX3_isWithinLimit_16 (by decide) ?_
    exact ret _ _ _ (Or.inl rfl) (by first | exact Or.inr ⟨rfl, Or.inl c3⟩ | exact Or.inr ⟨rfl, Or.inr c9⟩ | exact Or.inl ⟨rfl, Int32.not_lt.mp c3, Int32.not_lt.mp c9⟩) dX3_isWithinLimit_17
  · refine lv_iload_n hx hb dX3_isWithinLimit_6 rfl (lv_at hl 0 rfl) ?_
    refine lv_ldc (v := (1000000 : Int32)) hx hb hown (hts _ w_X3_isWithinLimit__constant_RX3_171_1000000__497f92) dX3_isWithinLimit_7 ?_
    refine lv_icmp_gt (tgt := 16) hx hb dX3_isWithinLimit_9 (by decide) (fun c9 => ?_) (fun c9 => ?_)
    · refine lv_iconst (v := (0 : Int32)) hx hb dX3_isWithinLimit_16 (by decide) ?_
      exact ret _ _ _ (Or.inl rfl) (by first | exact Or.inr ⟨rfl, Or.inl c3⟩ | exact Or.inr ⟨rfl, Or.inr c9⟩ | exact Or.inl ⟨rfl, Int32.not_lt.mp c3, Int32.not_lt.mp c9⟩) dX3_isWithinLimit_17
    · refine lv_iconst (v := (1 : Int32)) hx hb dX3_isWithinLimit_12 (by decide) ?_
      refine lv_goto (tgt := 17) hx hb dX3_isWithinLimit_13 (by decide) ?_
      exact ret _ _ _ (Or.inr rfl) (by first | exact Or.inr ⟨rfl, Or.inl c3⟩ | exact Or.inr ⟨rfl, Or.inr c9⟩ | exact Or.inl ⟨rfl, Int32.not_lt.mp c3, Int32.not_lt.mp c9⟩) dX3_isWithinLimit_17
set_option maxHeartbeats 4000000 in
set_option maxRecDepth 100000 in
theorem c_X3_runNumber (l : Launch) (D : va_G) (cI cZ cW cC : ClassId) (x y : Int32) : zq_ro l D cI cZ cW cC yX3_runNumber wsX3_runNumber ({ frames := 0, cells := 0, slots := 0, locals := 0 } : Room) [.int x, .int y] [] (fun v => (∃ i j : Nat, i < 16 ∧ j < 16 ∧ x = nI i ∧ y = nI j ∧ v = some (.int (nI (16 * i + j)))) ∨ (v = some (.int (-1)) ∧ ¬ (zr 16 x ∧ zr 16 y))) := by
  refine zq_roI (own := RX3) (by decide) rfl rfl (Nat.le_of_ble_eq_true rfl) ?_
  intro p e s m below meth c Q ls hF hP hK hl ret
  obtain ⟨hx, hb, hml, hown, hts⟩ := hF
  have hl : lv_has ls 2 [(0, .int x), (1, .int y)] := hl
  refine lv_iload_n hx hb dX3_runNumber_0 rfl (lv_at hl 0 rfl) ?_
  refine lv_if_lt (tgt := 20) hx hb dX3_runNumber_1 (by decide) (fun c1 => ?_) (fun c1 => ?_)
  · refine lv_iconst (v := (-1 : Int32)) hx hb dX3_runNumber_20 (by decide) ?_
    exact ret _ _ _ (by first | exact Or.inr ⟨rfl, fun q => absurd q.1 (zr_lo c1)⟩ | exact Or.inr ⟨rfl, fun q => absurd q.1 (zr_hi c7)⟩ | exact Or.inr ⟨rfl, fun q => absurd q.2 (zr_lo c11)⟩ | exact Or.inr ⟨rfl, fun q => absurd q.2 (zr_hi (Int32.not_lt.mp c17))⟩) dX3_runNumber_21
  · refine lv_iload_n hx hb dX3_runNumber_4 rfl (lv_at hl 0 rfl) ?_
    refine lv_bipush (v := (nI 16)) hx hb dX3_runNumber_5 (by decide) ?_
    refine lv_icmp_ge (tgt := 20) hx hb dX3_runNumber_7 (by decide) (fun c7 => ?_) (fun c7 => ?_)
    · refine lv_iconst (v := (-1 : Int32)) hx hb dX3_runNumber_20 (by decide) ?_
      exact ret _ _ _ (by first | exact Or.inr ⟨rfl, fun q => absurd q.1 (zr_lo c1)⟩ | exact Or.inr ⟨rfl, fun q => absurd q.1 (zr_hi c7)⟩ | exact Or.inr ⟨rfl, fun q => absurd q.2 (zr_lo c11)⟩ | exact Or.inr ⟨rfl, fun q => absurd q.2 (zr_hi (Int32.not_lt.mp c17))⟩) dX3_runNumber_21
    · refine lv_iload_n hx hb dX3_runNumber_10 rfl (lv_at hl 1 rfl) ?_
      refine lv_if_lt (tgt := 20) hx hb dX3_runNumber_11 (by decide) (fun c11 => ?_) (fun c11 => ?_)
      · refine lv_iconst (v := (-1 : Int32)) hx hb dX3_runNumber_20 (by decide) ?_
        exact ret _ _ _ (by first | exact Or.inr ⟨rfl, fun q => absurd q.1 (zr_lo c1)⟩ | exact Or.inr ⟨rfl, fun q => absurd q.1 (zr_hi c7)⟩ | exact Or.inr ⟨rfl, fun q => absurd q.2 (zr_lo c11)⟩ | exact Or.inr ⟨rfl, fun q => absurd q.2 (zr_hi (Int32.not_lt.mp c17))⟩) dX3_runNumber_21
      · refine lv_iload_n hx hb dX3_runNumber_14 rfl (lv_at hl 1 rfl) ?_
        refine lv_bipush (v := (nI 16)) hx hb dX3_runNumber_15 (by decide) ?_
        refine lv_icmp_lt (tgt := 22) hx hb dX3_runNumber_17 (by decide) (fun c17 => ?_) (fun c17 => ?_)
        · refine lv_iload_n hx hb dX3_runNumber_22 rfl (lv_at hl 0 rfl) ?_
          refine lv_bipush (v := (nI 16)) hx hb dX3_runNumber_23 (by decide) ?_
          refine lv_imul hx hb dX3_runNumber_25 ?_
          refine lv_iload_n hx hb dX3_runNumber_26 rfl (lv_at hl 1 rfl) ?_
          refine lv_iadd hx hb dX3_runNumber_27 ?_
          exact ret _ _ _ (by obtain ⟨i, hi, rfl⟩ := zr_of c1 c7; obtain ⟨j, hj, rfl⟩ := zr_of c11 (Int32.not_le.mpr c17); exact Or.inl ⟨i, j, hi, hj, rfl, rfl, by rw [pk_mul, nI_add, Nat.mul_comm]⟩) dX3_runNumber_28
        · refine lv_iconst (v := (-1 : Int32)) hx hb dX3_runNumber_20 (by decide) ?_
          exact ret _ _ _ (by first | exact Or.inr ⟨rfl, fun q => absurd q.1 (zr_lo c1)⟩ | exact Or.inr ⟨rfl, fun q => absurd q.1 (zr_hi c7)⟩ | exact Or.inr ⟨rfl, fun q => absurd q.2 (zr_lo c11)⟩ | exact Or.inr ⟨rfl, fun q => absurd q.2 (zr_hi (Int32.not_lt.mp c17))⟩) dX3_runNumber_21
theorem w_X2_given__constant_RX2_29_2147483648__9aba07 : (.constant RX2 29 (-2147483648) : Cond) ∈ wsX2_given := by decide +kernel
theorem w_X2_given__fieldLink_RX2_9_WordsBeside_World_gives_I__36404f : (.fieldLink RX2 9 "WordsBeside$World" "gives" "[I" : Cond) ∈ wsX2_given := by decide +kernel
theorem in_X2_given_X2 : ∀ w ∈ wsX20, w ∈ wsX2_given := fun _ h => List.mem_cons_of_mem _ (List.mem_append_right _ h)
set_option maxHeartbeats 4000000 in
set_option maxRecDepth 100000 in
theorem c_X2_given (l : Launch) (D : va_G) (cI cZ cW cC : ClassId) (w g : Nat) (G : Nat → Int32) (f r : Int32) : zq_ro l D cI cZ cW cC yX2_given wsX2_given ({ frames := 0, cells := 0, slots := 0, locals := 0 } : Room) [.ref w, .int f, .int r] [(w, .inr (2, [.ref g])), (g, .inl (cI, 1536, .inl G))] (fun v => v = some (.int (zg G f r))) := by
  refine zq_roI (own := RX2) (by decide) rfl rfl (Nat.le_of_ble_eq_true rfl) ?_
  intro p e s m below meth c Q ls hF hP hK hl ret
  obtain ⟨hx, hb, hml, hown, hts⟩ := hF
  have hl : lv_has ls 3 [(0, .ref w), (1, .int f), (2, .int r)] := hl
  refine lv_iload_n hx hb dX2_given_0 rfl (lv_at hl 1 rfl) ?_
  refine lv_if_lt (tgt := 21) hx hb dX2_given_1 (by decide) (fun c1 => ?_) (fun c1 => ?_)
  · refine lv_ldc (v := (-2147483648 : Int32)) hx hb hown (hts _ w_X2_given__constant_RX2_29_2147483648__9aba07) dX2_given_21 ?_
    exact ret _ _ _ (by first | exact congrArg (fun z => some (Value.int z)) (zg_nf (zr_lo c1)).symm | exact congrArg (fun z => some (Value.int z)) (zg_nf (zr_hi c7)).symm | exact congrArg (fun z => some (Value.int z)) (zg_nr (zr_lo c11)).symm | exact congrArg (fun z => some (Value.int z)) (zg_nr (zr_hi (Int32.not_lt.mp c18))).symm) dX2_given_23
  · refine lv_iload_n hx hb dX2_given_4 rfl (lv_at hl 1 rfl) ?_
    refine lv_bipush (v := (nI 6)) hx hb dX2_given_5 (by decide) ?_
    refine lv_icmp_ge (tgt := 21) hx hb dX2_given_7 (by decide) (fun c7 => ?_) (fun c7 => ?_)
    · refine lv_ldc (v := (-2147483648 : Int32)) hx hb hown (hts _ w_X2_given__constant_RX2_29_2147483648__9aba07) dX2_given_21 ?_
      exact ret _ _ _ (by first | exact congrArg (fun z => some (Value.int z)) (zg_nf (zr_lo c1)).symm | exact congrArg (fun z => some (Value.int z)) (zg_nf (zr_hi c7)).symm | exact congrArg (fun z => some (Value.int z)) (zg_nr (zr_lo c11)).symm | exact congrArg (fun z => some (Value.int z)) (zg_nr (zr_hi (Int32.not_lt.mp c18))).symm) dX2_given_23
    · refine lv_iload_n hx hb dX2_given_10 rfl (lv_at hl 2 rfl) ?_
      refine lv_if_lt (tgt := 21) hx hb dX2_given_11 (by decide) (fun c11 => ?_) (fun c11 => ?_)
      · refine lv_ldc (v := (-2147483648 : Int32)) hx hb hown (hts _ w_X2_given__constant_RX2_29_2147483648__9aba07) dX2_given_21 ?_
        exact ret _ _ _ (by first | exact congrArg (fun z => some (Value.int z)) (zg_nf (zr_lo c1)).symm | exact congrArg (fun z => some (Value.int z)) (zg_nf (zr_hi c7)).symm | exact congrArg (fun z => some (Value.int z)) (zg_nr (zr_lo c11)).symm | exact congrArg (fun z => some (Value.int z)) (zg_nr (zr_hi (Int32.not_lt.mp c18))).symm) dX2_given_23
      · refine lv_iload_n hx hb dX2_given_14 rfl (lv_at hl 2 rfl) ?_
        refine lv_sipush (v := (nI 256)) hx hb dX2_given_15 (by decide) ?_
        refine lv_icmp_lt (tgt := 24) hx hb dX2_given_18 (by decide) (fun c18 => ?_) (fun c18 => ?_)
        · obtain ⟨f, hf, rfl⟩ := zr_of c1 c7
          obtain ⟨r, hr, rfl⟩ := zr_of c11 (Int32.not_le.mpr c18)
          refine lv_aload_n hx hb dX2_given_24 rfl (lv_at hl 0 rfl) ?_
          refine zq_get hx hb hts in_X2_given_X2 hown hK hP 0 rfl rfl 0 (by decide) (hts _ w_X2_given__fieldLink_RX2_9_WordsBeside_World_gives_I__36404f) rfl dX2_given_25 ?_
          refine lv_iload_n hx hb dX2_given_28 rfl (lv_at hl 1 rfl) ?_
          refine lv_sipush (v := (nI 256)) hx hb dX2_given_29 (by decide) ?_
          refine lv_imul hx hb dX2_given_32 ?_
          refine lv_iload_n hx hb dX2_given_33 rfl (lv_at hl 2 rfl) ?_
          refine lv_iadd hx hb dX2_given_34 ?_
          refine zq_ild hx hb hK hP 1 rfl (256 * f + r) (by simp only [pk_mul, nI_add]; first | rfl | (congr 1; omega)) (by omega) (by decide) dX2_given_35 ?_
          exact ret _ _ _ (congrArg (fun z => some (Value.int z)) (zg_in hf hr).symm) dX2_given_36
        · refine lv_ldc (v := (-2147483648 : Int32)) hx hb hown (hts _ w_X2_given__constant_RX2_29_2147483648__9aba07) dX2_given_21 ?_
          exact ret _ _ _ (by first | exact congrArg (fun z => some (Value.int z)) (zg_nf (zr_lo c1)).symm | exact congrArg (fun z => some (Value.int z)) (zg_nf (zr_hi c7)).symm | exact congrArg (fun z => some (Value.int z)) (zg_nr (zr_lo c11)).symm | exact congrArg (fun z => some (Value.int z)) (zg_nr (zr_hi (Int32.not_lt.mp c18))).symm) dX2_given_23
theorem cn_X2_given (l : Launch) (D : va_G) (cI cZ cW cC : ClassId) (w g : Nat) (G : Nat → Int32) (f r : Nat) (hf : f < 6) (hr : r < 256) : zq_ro l D cI cZ cW cC yX2_given wsX2_given ({ frames := 0, cells := 0, slots := 0, locals := 0 } : Room) [.ref w, .int (nI f), .int (nI r)] [(w, .inr (2, [.ref g])), (g, .inl (cI, 1536, .inl G))] (fun v => v = some (.int (G (256 * f + r)))) := zq_ro_mono (c_X2_given l D cI cZ cW cC w g G (nI f) (nI r)) (fun v h => by rw [h, zg_in hf hr])
theorem w_X2_refusals__constant_RX2_29_2147483648__9aba07 : (.constant RX2 29 (-2147483648) : Cond) ∈ wsX2_refusals := by decide +kernel
set_option maxHeartbeats 4000000 in
set_option maxRecDepth 100000 in
theorem c_X2_refusals (l : Launch) (D : va_G) (cI cZ cW cC : ClassId) (w g : Nat) (G : Nat → Int32) (f : Nat) (hf : f < 6) : zq_ro l D cI cZ cW cC yX2_refusals wsX2_refusals ({ frames := 1, cells := 0, slots := 0, locals := 22 } : Room) [.ref w, .int (nI f)] [(w, .inr (2, [.ref g])), (g, .inl (cI, 1536, .inl G))] (fun v => v = some (.int (nI (fb_ct (zref G f) 256)))) := by
  refine zq_roI (own := RX2) (by decide) rfl rfl (Nat.le_of_ble_eq_true rfl) ?_
  intro p e s m below meth c Q ls hF hP hK hl ret
  obtain ⟨hx, hb, hml, hown, hts⟩ := hF
  have hl : lv_has ls 4 [(0, .ref w), (1, .int (nI f))] := hl
  refine lv_iconst (v := (0 : Int32)) hx hb dX2_refusals_0 (by decide) ?_
  refine lv_istore_n (lv' := [(2, .int (0 : Int32)), (0, .ref w), (1, .int (nI f))]) hx hb dX2_refusals_1 rfl hl (by decide) rfl (fun ls hl => ?_)
  refine lv_iconst (v := (0 : Int32)) hx hb dX2_refusals_2 (by decide) ?_
  refine lv_istore_n (lv' := [(3, .int (nI 0)), (2, .int (nI 0)), (0, .ref w), (1, .int (nI f))]) hx hb dX2_refusals_3 rfl hl (by decide) rfl (fun ls hl => ?_)
  have loop4 : ∀ (n : Nat) (k : Nat) (x2 : Int32) (ls : Array Slot), (256 - k) < n → k ≤ 256 → x2 = nI (fb_ct (zref G f) k) → lv_has ls 4 [(0, .ref w), (1, .int (nI f)), (2, .int x2), (3, .int (nI k))] → W p l e ({ frames := 1, cells := 0, slots := 0, locals := 22 } : Room) s m ([.ref w, .int (nI f)] : List Value).toArray below meth c s.heap [] 0 0 Q (F0 m 4 ls []) := by
    intro n
    induction n with
    | zero => intro _ _ _ hmu; exact absurd hmu (Nat.not_lt_zero _)
    | succ n ih =>
      intro k x2 ls hmu hk ex2 hl
      refine lv_iload_n hx hb dX2_refusals_4 rfl (lv_at hl 3 rfl) ?_
      refine lv_sipush (v := (nI 256)) hx hb dX2_refusals_5 (by decide) ?_
      refine lv_icmp_ge (tgt := 31) hx hb dX2_refusals_8 (by decide) (fun c8 => ?_) (fun c8 => ?_)
      · have h8 := zle c8
        have hk2 : k = 256 := by have := zle c8; omega
        refine lv_iload_n hx hb dX2_refusals_31 rfl (lv_at hl 2 rfl) ?_
        exact ret _ _ _ (by rw [ex2, hk2]) dX2_refusals_32
      · have h8 := znle c8
        have hk2 := znle c8
        refine lv_aload_n hx hb dX2_refusals_11 rfl (lv_at hl 0 rfl) ?_
        refine lv_iload_n hx hb dX2_refusals_12 rfl (lv_at hl 1 rfl) ?_
        refine lv_iload_n hx hb dX2_refusals_13 rfl (lv_at hl 3 rfl) ?_
        refine zq_cV (rest := []) ⟨hx, hb, hml, hown, hts⟩ (cn_X2_given l D cI cZ cW cC w g G f k (by omega) (by omega)) (cwV 2 hts gX2_refusals_X2_given rfl rfl rfl (by decide +kernel) ⟨Nat.le_of_ble_eq_true rfl, Nat.le_of_ble_eq_true rfl⟩) hK hP 2 0 rfl rfl rfl hl.1 rfl (Nat.le_of_ble_eq_true rfl) dX2_refusals_14 ⟨Nat.le_of_ble_eq_true rfl, Nat.le_of_ble_eq_true rfl⟩ (fun v hv => ?_)
        obtain rfl := hv
        refine W.eq (g2 := F0 m 17 ls [.int (G (256 * f + k))]) rfl ?_
        refine lv_ldc (v := (-2147483648 : Int32)) hx hb hown (hts _ w_X2_refusals__constant_RX2_29_2147483648__9aba07) dX2_refusals_17 ?_
        refine lv_icmp_ne (tgt := 25) hx hb dX2_refusals_19 (by decide) (fun c19 => ?_) (fun c19 => ?_)
        · refine lv_iinc (v := (nI (k + 1))) (lv' := [(3, .int (nI (k + 1))), (0, .ref w), (1, .int (nI f)), (2, .int x2)]) hx hb dX2_refusals_25 hl (k := 3) rfl ((nI_succ _).symm) (by decide) rfl (fun ls hl => ?_)
          refine lv_goto (tgt := 4) hx hb dX2_refusals_28 (by decide) ?_
          exact ih (k + 1) x2 ls (by omega) (by omega) (by first | (rw [ex2, fb_ct_succ, if_neg (by simp [zref, c19])]; rfl) | (rw [ex2, fb_ct_succ, if_pos (by simp [zref, c19]), nI_succ])) (lv_sub hl [1, 2, 3, 0] rfl)
        · refine lv_iinc (v := (x2 + 1)) (lv' := [(2, .int (x2 + 1)), (0, .ref w), (1, .int (nI f)), (3, .int (nI k))]) hx hb dX2_refusals_22 hl (k := 2) rfl (rfl) (by decide) rfl (fun ls hl => ?_)
          refine lv_iinc (v := (nI (k + 1))) (lv' := [(3, .int (nI (k + 1))), (2, .int (x2 + 1)), (0, .ref w), (1, .int (nI f))]) hx hb dX2_refusals_25 hl (k := 3) rfl ((nI_succ _).symm) (by decide) rfl (fun ls hl => ?_)
          refine lv_goto (tgt := 4) hx hb dX2_refusals_28 (by decide) ?_
          exact ih (k + 1) (x2 + 1) ls (by omega) (by omega) (by first | (rw [ex2, fb_ct_succ, if_neg (by simp [zref, c19])]; rfl) | (rw [ex2, fb_ct_succ, if_pos (by simp [zref, c19]), nI_succ])) (lv_sub hl [2, 3, 1, 0] rfl)
  exact loop4 (256 + 1) 0 0 ls (by omega) (by omega) rfl (lv_sub hl [2, 3, 1, 0] rfl)
