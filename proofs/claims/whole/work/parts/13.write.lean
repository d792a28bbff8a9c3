/-! World, Code, Claim: writing methods -/
def zval (st : Nat → Int32) (f n : Nat) : Prop := ∀ k, k < n → st (12 * f + k) / nI 1000 = nI 9 → ∃ a, a < f ∧ za (st (12 * f + k)) = nI a
theorem zaf_cong {G G' : Nat → Int32} {f r : Nat} {x v : Int32} (hG : ∀ j, j < 256 * f → G j = G' j) (hf : f < 6) (hr : r < 256) (hv : x / nI 1000 = nI 9 → ∃ a, a < f ∧ za x = nI a) : zaf G x v r = zaf G' x v r := by
  unfold zaf
  by_cases h : x / nI 1000 = nI 9
  · obtain ⟨a, ha, e⟩ := hv h
    have e2 : zgp G (za x) r = zgp G' (za x) r := by
      unfold zgp
      rw [e, nI_clamp (by omega), hG _ (by omega)]
    rw [e2]
  · have h' : ¬ x / nI 1000 = 9 := h
    simp only [h', if_false]
theorem zwk_cong {G G' : Nat → Int32} {st : Nat → Int32} {f r : Nat} (hG : ∀ j, j < 256 * f → G j = G' j) (hf : f < 6) (hr : r < 256) : ∀ (n k : Nat) (b : Bool) (v : Int32), (∀ i, k ≤ i → i < k + n → st (12 * f + i) / nI 1000 = nI 9 → ∃ a, a < f ∧ za (st (12 * f + i)) = nI a) → zwk G st f r n k b v = zwk G' st f r n k b v
  | 0, _, _, _, _ => by simp [zwk]
  | n + 1, k, true, v, h => by
    rw [zwk, zwk]
    exact zwk_cong hG hf hr n (k + 1) false v (fun i h1 h2 => h i (by omega) (by omega))
  | n + 1, k, false, v, h => by
    rw [zwk, zwk, zaf_cong hG hf hr (h k (by omega) (by omega)), zwk_cong hG hf hr n (k + 1) _ v (fun i h1 h2 => h i (by omega) (by omega)), zwk_cong hG hf hr n (k + 1) false _ (fun i h1 h2 => h i (by omega) (by omega))]
theorem zwk_cong0 {G G' : Nat → Int32} {st : Nat → Int32} {f r n : Nat} (hG : ∀ j, j < 256 * f → G j = G' j) (hf : f < 6) (hr : r < 256) (hv : zval st f n) (v : Int32) : zwk G st f r n 0 false v = zwk G' st f r n 0 false v := zwk_cong hG hf hr n 0 false v (fun i _ h2 => hv i (by omega))

theorem w_X2_put__fieldLink_RX2_9_WordsBeside_World_gives_I__36404f : (.fieldLink RX2 9 "WordsBeside$World" "gives" "[I" : Cond) ∈ wsX2_put := by decide +kernel
theorem w_X2_put__initialized_RX3_7f12e8 : (.initialized RX3 : Cond) ∈ wsX2_put := by decide +kernel
theorem w_X2_put__static_yX3_isFunction_d3d570 : (.static yX3_isFunction : Cond) ∈ wsX2_put := by decide +kernel
theorem w_X2_put__static_yX3_isRun_0d8319 : (.static yX3_isRun : Cond) ∈ wsX2_put := by decide +kernel
theorem in_X2_put_X2 : ∀ w ∈ wsX20, w ∈ wsX2_put := fun _ h => List.mem_cons_of_mem _ (List.mem_append_right _ h)
set_option maxHeartbeats 4000000 in
set_option maxRecDepth 100000 in
theorem c_X2_put (l : Launch) (D : va_G) (cI cZ cW cC : ClassId) (w g : Nat) (G : Nat → Int32) (f r : Nat) (hf : f < 6) (hr : r < 256) (x : Int32) (sz : Nat) : zq_mu l D cI cZ cW cC yX2_put wsX2_put ({ frames := 1, cells := 0, slots := 0, locals := 20 } : Room) [.ref w, .int (nI f), .int (nI r), .int x] [(w, .inr (2, [.ref g])), (g, .inl (cI, 1536, .inl G))] sz (fun v w1 => v = none ∧ w1 = [(w, .inr (2, [.ref g])), (g, .inl (cI, 1536, .inl (upd G (256 * f + r) x)))]) 0 0 := by
  refine zq_muV (own := RX2) (by decide) rfl rfl (Nat.le_of_ble_eq_true rfl) ?_
  intro p e s m below meth c Q A ls hsz hF hin hA hP hK hD hS hl ret
  obtain ⟨hx, hb, hml, hown, hts⟩ := hF
  have hl : lv_has ls 4 [(0, .ref w), (1, .int (nI f)), (2, .int (nI r)), (3, .int x)] := hl
  refine lv_iload_n hx hb dX2_put_0 rfl (lv_at hl 1 rfl) ?_
  refine zq_cN (rest := []) ⟨hx, hb, hml, hown, hts⟩ (zq_ro_mono (c_X3_isFunction l D cI cZ cW cC (nI f)) (fun v h => h.resolve_right (fun q => q.2 (zr_nI hf)))) ⟨va_cnB (own := RX2) (index := 22) (host := RX3) 1 hts gX2_put_X3_isFunction_n22 rfl rfl rfl hK.2.2.2.1 (hts _ w_X2_put__initialized_RX3_7f12e8) (by decide +kernel) ⟨Nat.le_of_ble_eq_true rfl, Nat.le_of_ble_eq_true rfl⟩, (hts _ w_X2_put__static_yX3_isFunction_d3d570), trivial⟩ hK (fun k q h => by simp at h) rfl hl.1 rfl (Nat.le_of_ble_eq_true rfl) dX2_put_1 ⟨Nat.le_of_ble_eq_true rfl, Nat.le_of_ble_eq_true rfl⟩ (fun v hv => ?_)
  obtain ⟨rfl, hyf⟩ := hv
  refine W.eq (g2 := F0 m 4 ls [.int (1 : Int32)]) rfl ?_
  refine lv_if_eq (tgt := 27) hx hb dX2_put_4 (by decide) (fun c4 => absurd c4 (by decide)) (fun c4 => ?_)
  refine lv_iload_n hx hb dX2_put_7 rfl (lv_at hl 2 rfl) ?_
  refine zq_cN (rest := []) ⟨hx, hb, hml, hown, hts⟩ (zq_ro_mono (c_X3_isRun l D cI cZ cW cC (nI r)) (fun v h => h.resolve_right (fun q => q.2 (zr_nI hr)))) ⟨va_cnB (own := RX2) (index := 26) (host := RX3) 1 hts gX2_put_X3_isRun_n26 rfl rfl rfl hK.2.2.2.2.1 (hts _ w_X2_put__initialized_RX3_7f12e8) (by decide +kernel) ⟨Nat.le_of_ble_eq_true rfl, Nat.le_of_ble_eq_true rfl⟩, (hts _ w_X2_put__static_yX3_isRun_0d8319), trivial⟩ hK (fun k q h => by simp at h) rfl hl.1 rfl (Nat.le_of_ble_eq_true rfl) dX2_put_8 ⟨Nat.le_of_ble_eq_true rfl, Nat.le_of_ble_eq_true rfl⟩ (fun v hv => ?_)
  obtain ⟨rfl, hyr⟩ := hv
  refine W.eq (g2 := F0 m 11 ls [.int (1 : Int32)]) rfl ?_
  refine lv_if_eq (tgt := 27) hx hb dX2_put_11 (by decide) (fun c11 => absurd c11 (by decide)) (fun c11 => ?_)
  refine lv_aload_n hx hb dX2_put_14 rfl (lv_at hl 0 rfl) ?_
  refine zq_get hx hb hts in_X2_put_X2 hown hK hP 0 rfl rfl 0 (by decide) (hts _ w_X2_put__fieldLink_RX2_9_WordsBeside_World_gives_I__36404f) rfl dX2_put_15 ?_
  refine lv_iload_n hx hb dX2_put_18 rfl (lv_at hl 1 rfl) ?_
  refine lv_sipush (v := (nI 256)) hx hb dX2_put_19 (by decide) ?_
  refine lv_imul hx hb dX2_put_22 ?_
  refine lv_iload_n hx hb dX2_put_23 rfl (lv_at hl 2 rfl) ?_
  refine lv_iadd hx hb dX2_put_24 ?_
  refine lv_iload_n hx hb dX2_put_25 rfl (lv_at hl 3 rfl) ?_
  refine zq_ist hx hb hK hP hD hS 1 rfl (256 * f + r) (by simp only [pk_mul, nI_add] <;> (congr 1; omega)) (by omega) (by decide) dX2_put_26 (fun H locs hP hD hS => ?_)
  have hP : va_P D vwCl [(w, .inr (2, [.ref g])), (g, .inl (cI, 1536, .inl (upd G (256 * f + r) x)))] H := hP
  have hD : va_D A [(w, .inr (2, [.ref g])), (g, .inl (cI, 1536, .inl (upd G (256 * f + r) x)))] := hD
  exact ret _ _ _ _ _ ⟨rfl, rfl⟩ hP hD hS dX2_put_27
theorem w_X1_empty__fieldLink_RX1_15_WordsBeside_Code_lengths_I__c3572a : (.fieldLink RX1 15 "WordsBeside$Code" "lengths" "[I" : Cond) ∈ wsX1_empty := by decide +kernel
theorem w_X1_empty__initialized_RX3_7f12e8 : (.initialized RX3 : Cond) ∈ wsX1_empty := by decide +kernel
theorem w_X1_empty__static_yX3_isFunction_d3d570 : (.static yX3_isFunction : Cond) ∈ wsX1_empty := by decide +kernel
theorem in_X1_empty_X1 : ∀ w ∈ wsX10, w ∈ wsX1_empty := fun _ h => List.mem_cons_of_mem _ (List.mem_append_right _ h)
set_option maxHeartbeats 4000000 in
set_option maxRecDepth 100000 in
theorem c_X1_empty (l : Launch) (D : va_G) (cI cZ cW cC : ClassId) (cd ss sl : Nat) (st ln : Nat → Int32) (f : Nat) (hf : f < 6) (sz : Nat) : zq_mu l D cI cZ cW cC yX1_empty wsX1_empty ({ frames := 1, cells := 0, slots := 0, locals := 20 } : Room) [.ref cd, .int (nI f)] [(cd, .inr (1, [.ref ss, .ref sl])), (ss, .inl (cI, 72, .inl st)), (sl, .inl (cI, 6, .inl ln))] sz (fun v w1 => v = none ∧ w1 = [(cd, .inr (1, [.ref ss, .ref sl])), (ss, .inl (cI, 72, .inl st)), (sl, .inl (cI, 6, .inl (upd ln f 0)))]) 0 0 := by
  refine zq_muV (own := RX1) (by decide) rfl rfl (Nat.le_of_ble_eq_true rfl) ?_
  intro p e s m below meth c Q A ls hsz hF hin hA hP hK hD hS hl ret
  obtain ⟨hx, hb, hml, hown, hts⟩ := hF
  have hl : lv_has ls 2 [(0, .ref cd), (1, .int (nI f))] := hl
  refine lv_iload_n hx hb dX1_empty_0 rfl (lv_at hl 1 rfl) ?_
  refine zq_cN (rest := []) ⟨hx, hb, hml, hown, hts⟩ (zq_ro_mono (c_X3_isFunction l D cI cZ cW cC (nI f)) (fun v h => h.resolve_right (fun q => q.2 (zr_nI hf)))) ⟨va_cnB (own := RX1) (index := 18) (host := RX3) 1 hts gX1_empty_X3_isFunction_n18 rfl rfl rfl hK.2.1 (hts _ w_X1_empty__initialized_RX3_7f12e8) (by decide +kernel) ⟨Nat.le_of_ble_eq_true rfl, Nat.le_of_ble_eq_true rfl⟩, (hts _ w_X1_empty__static_yX3_isFunction_d3d570), trivial⟩ hK (fun k q h => by simp at h) rfl hl.1 rfl (Nat.le_of_ble_eq_true rfl) dX1_empty_1 ⟨Nat.le_of_ble_eq_true rfl, Nat.le_of_ble_eq_true rfl⟩ (fun v hv => ?_)
  obtain ⟨rfl, hyf⟩ := hv
  refine W.eq (g2 := F0 m 4 ls [.int (1 : Int32)]) rfl ?_
  refine lv_if_eq (tgt := 14) hx hb dX1_empty_4 (by decide) (fun c4 => absurd c4 (by decide)) (fun c4 => ?_)
  refine lv_aload_n hx hb dX1_empty_7 rfl (lv_at hl 0 rfl) ?_
  refine zq_get hx hb hts in_X1_empty_X1 hown hK hP 0 rfl rfl 1 (by decide) (hts _ w_X1_empty__fieldLink_RX1_15_WordsBeside_Code_lengths_I__c3572a) rfl dX1_empty_8 ?_
  refine lv_iload_n hx hb dX1_empty_11 rfl (lv_at hl 1 rfl) ?_
  refine lv_iconst (v := (0 : Int32)) hx hb dX1_empty_12 (by decide) ?_
  refine zq_ist hx hb hK hP hD hS 2 rfl f rfl (by omega) (by decide) dX1_empty_13 (fun H locs hP hD hS => ?_)
  have hP : va_P D vwCl [(cd, .inr (1, [.ref ss, .ref sl])), (ss, .inl (cI, 72, .inl st)), (sl, .inl (cI, 6, .inl (upd ln f (0 : Int32))))] H := hP
  have hD : va_D A [(cd, .inr (1, [.ref ss, .ref sl])), (ss, .inl (cI, 72, .inl st)), (sl, .inl (cI, 6, .inl (upd ln f (0 : Int32))))] := hD
  exact ret _ _ _ _ _ ⟨rfl, rfl⟩ hP hD hS dX1_empty_14
theorem w_X1_put__fieldLink_RX1_9_WordsBeside_Code_steps_I__23634e : (.fieldLink RX1 9 "WordsBeside$Code" "steps" "[I" : Cond) ∈ wsX1_put := by decide +kernel
theorem w_X1_put__initialized_RX3_7f12e8 : (.initialized RX3 : Cond) ∈ wsX1_put := by decide +kernel
theorem w_X1_put__static_yX3_isFunction_d3d570 : (.static yX3_isFunction : Cond) ∈ wsX1_put := by decide +kernel
theorem in_X1_put_X1 : ∀ w ∈ wsX10, w ∈ wsX1_put := fun _ h => List.mem_cons_of_mem _ (List.mem_append_right _ h)
set_option maxHeartbeats 4000000 in
set_option maxRecDepth 100000 in
theorem c_X1_put (l : Launch) (D : va_G) (cI cZ cW cC : ClassId) (cd ss sl : Nat) (st ln : Nat → Int32) (f : Nat) (hf : f < 6) (k : Nat) (hk : k < 12) (x : Int32) (sz : Nat) : zq_mu l D cI cZ cW cC yX1_put wsX1_put ({ frames := 1, cells := 0, slots := 0, locals := 20 } : Room) [.ref cd, .int (nI f), .int (nI k), .int x] [(cd, .inr (1, [.ref ss, .ref sl])), (ss, .inl (cI, 72, .inl st)), (sl, .inl (cI, 6, .inl ln))] sz (fun v w1 => v = none ∧ w1 = [(cd, .inr (1, [.ref ss, .ref sl])), (ss, .inl (cI, 72, .inl (upd st (12 * f + k) x))), (sl, .inl (cI, 6, .inl ln))]) 0 0 := by
  refine zq_muV (own := RX1) (by decide) rfl rfl (Nat.le_of_ble_eq_true rfl) ?_
  intro p e s m below meth c Q A ls hsz hF hin hA hP hK hD hS hl ret
  obtain ⟨hx, hb, hml, hown, hts⟩ := hF
  have hl : lv_has ls 4 [(0, .ref cd), (1, .int (nI f)), (2, .int (nI k)), (3, .int x)] := hl
  refine lv_iload_n hx hb dX1_put_0 rfl (lv_at hl 1 rfl) ?_
  refine zq_cN (rest := []) ⟨hx, hb, hml, hown, hts⟩ (zq_ro_mono (c_X3_isFunction l D cI cZ cW cC (nI f)) (fun v h => h.resolve_right (fun q => q.2 (zr_nI hf)))) ⟨va_cnB (own := RX1) (index := 18) (host := RX3) 1 hts gX1_put_X3_isFunction_n18 rfl rfl rfl hK.2.1 (hts _ w_X1_put__initialized_RX3_7f12e8) (by decide +kernel) ⟨Nat.le_of_ble_eq_true rfl, Nat.le_of_ble_eq_true rfl⟩, (hts _ w_X1_put__static_yX3_isFunction_d3d570), trivial⟩ hK (fun k q h => by simp at h) rfl hl.1 rfl (Nat.le_of_ble_eq_true rfl) dX1_put_1 ⟨Nat.le_of_ble_eq_true rfl, Nat.le_of_ble_eq_true rfl⟩ (fun v hv => ?_)
  obtain ⟨rfl, hyf⟩ := hv
  refine W.eq (g2 := F0 m 4 ls [.int (1 : Int32)]) rfl ?_
  refine lv_if_eq (tgt := 29) hx hb dX1_put_4 (by decide) (fun c4 => absurd c4 (by decide)) (fun c4 => ?_)
  refine lv_iload_n hx hb dX1_put_7 rfl (lv_at hl 2 rfl) ?_
  refine lv_if_lt (tgt := 29) hx hb dX1_put_8 (by decide) (fun c8 => absurd c8 (nI_pos (by omega))) (fun c8 => ?_)
  refine lv_iload_n hx hb dX1_put_11 rfl (lv_at hl 2 rfl) ?_
  refine lv_bipush (v := (nI 12)) hx hb dX1_put_12 (by decide) ?_
  refine lv_icmp_ge (tgt := 29) hx hb dX1_put_14 (by decide) (fun c14 => absurd c14 (nI_ge hk (by omega))) (fun c14 => ?_)
  refine lv_aload_n hx hb dX1_put_17 rfl (lv_at hl 0 rfl) ?_
  refine zq_get hx hb hts in_X1_put_X1 hown hK hP 0 rfl rfl 0 (by decide) (hts _ w_X1_put__fieldLink_RX1_9_WordsBeside_Code_steps_I__23634e) rfl dX1_put_18 ?_
  refine lv_iload_n hx hb dX1_put_21 rfl (lv_at hl 1 rfl) ?_
  refine lv_bipush (v := (nI 12)) hx hb dX1_put_22 (by decide) ?_
  refine lv_imul hx hb dX1_put_24 ?_
  refine lv_iload_n hx hb dX1_put_25 rfl (lv_at hl 2 rfl) ?_
  refine lv_iadd hx hb dX1_put_26 ?_
  refine lv_iload_n hx hb dX1_put_27 rfl (lv_at hl 3 rfl) ?_
  refine zq_ist hx hb hK hP hD hS 1 rfl (12 * f + k) (by simp only [pk_mul, nI_add] <;> (congr 1; omega)) (by omega) (by decide) dX1_put_28 (fun H locs hP hD hS => ?_)
  have hP : va_P D vwCl [(cd, .inr (1, [.ref ss, .ref sl])), (ss, .inl (cI, 72, .inl (upd st (12 * f + k) x))), (sl, .inl (cI, 6, .inl ln))] H := hP
  have hD : va_D A [(cd, .inr (1, [.ref ss, .ref sl])), (ss, .inl (cI, 72, .inl (upd st (12 * f + k) x))), (sl, .inl (cI, 6, .inl ln))] := hD
  exact ret _ _ _ _ _ ⟨rfl, rfl⟩ hP hD hS dX1_put_29
theorem w_X1_append__fieldLink_RX1_15_WordsBeside_Code_lengths_I__c3572a : (.fieldLink RX1 15 "WordsBeside$Code" "lengths" "[I" : Cond) ∈ wsX1_append := by decide +kernel
theorem w_X1_append__initialized_RX3_7f12e8 : (.initialized RX3 : Cond) ∈ wsX1_append := by decide +kernel
theorem w_X1_append__static_yX3_isFunction_d3d570 : (.static yX3_isFunction : Cond) ∈ wsX1_append := by decide +kernel
theorem in_X1_append_X1 : ∀ w ∈ wsX10, w ∈ wsX1_append := fun _ h => List.mem_cons_of_mem _ (List.mem_append_right _ h)
set_option maxHeartbeats 4000000 in
set_option maxRecDepth 100000 in
theorem c_X1_append (l : Launch) (D : va_G) (cI cZ cW cC : ClassId) (cd ss sl : Nat) (st ln : Nat → Int32) (f : Nat) (hf : f < 6) (n : Nat) (hn : n < 12) (hln : ln f = nI n) (x : Int32) (sz : Nat) : zq_mu l D cI cZ cW cC yX1_append wsX1_append ({ frames := 2, cells := 0, slots := 0, locals := 43 } : Room) [.ref cd, .int (nI f), .int x] [(cd, .inr (1, [.ref ss, .ref sl])), (ss, .inl (cI, 72, .inl st)), (sl, .inl (cI, 6, .inl ln))] sz (fun v w1 => v = none ∧ w1 = [(cd, .inr (1, [.ref ss, .ref sl])), (ss, .inl (cI, 72, .inl (upd st (12 * f + n) x))), (sl, .inl (cI, 6, .inl (upd ln f (nI (n + 1)))))]) 0 0 := by
  refine zq_muV (own := RX1) (by decide) rfl rfl (Nat.le_of_ble_eq_true rfl) ?_
  intro p e s m below meth c Q A ls hsz hF hin hA hP hK hD hS hl ret
  obtain ⟨hx, hb, hml, hown, hts⟩ := hF
  have hl : lv_has ls 3 [(0, .ref cd), (1, .int (nI f)), (2, .int x)] := hl
  refine lv_iload_n hx hb dX1_append_0 rfl (lv_at hl 1 rfl) ?_
  refine zq_cN (rest := []) ⟨hx, hb, hml, hown, hts⟩ (zq_ro_mono (c_X3_isFunction l D cI cZ cW cC (nI f)) (fun v h => h.resolve_right (fun q => q.2 (zr_nI hf)))) ⟨va_cnB (own := RX1) (index := 18) (host := RX3) 1 hts gX1_append_X3_isFunction_n18 rfl rfl rfl hK.2.1 (hts _ w_X1_append__initialized_RX3_7f12e8) (by decide +kernel) ⟨Nat.le_of_ble_eq_true rfl, Nat.le_of_ble_eq_true rfl⟩, (hts _ w_X1_append__static_yX3_isFunction_d3d570), trivial⟩ hK (fun k q h => by simp at h) rfl hl.1 rfl (Nat.le_of_ble_eq_true rfl) dX1_append_1 ⟨Nat.le_of_ble_eq_true rfl, Nat.le_of_ble_eq_true rfl⟩ (fun v hv => ?_)
  obtain ⟨rfl, hyf⟩ := hv
  refine W.eq (g2 := F0 m 4 ls [.int (1 : Int32)]) rfl ?_
  refine lv_if_eq (tgt := 42) hx hb dX1_append_4 (by decide) (fun c4 => absurd c4 (by decide)) (fun c4 => ?_)
  refine lv_aload_n hx hb dX1_append_7 rfl (lv_at hl 0 rfl) ?_
  refine zq_get hx hb hts in_X1_append_X1 hown hK hP 0 rfl rfl 1 (by decide) (hts _ w_X1_append__fieldLink_RX1_15_WordsBeside_Code_lengths_I__c3572a) rfl dX1_append_8 ?_
  refine lv_iload_n hx hb dX1_append_11 rfl (lv_at hl 1 rfl) ?_
  refine zq_ild hx hb hK hP 2 rfl f rfl (by omega) (by decide) dX1_append_12 ?_
  refine zq_te (y := (nI n)) hln ?_
  refine lv_bipush (v := (nI 12)) hx hb dX1_append_13 (by decide) ?_
  refine lv_icmp_ge (tgt := 42) hx hb dX1_append_15 (by decide) (fun c15 => absurd c15 (nI_ge hn (by omega))) (fun c15 => ?_)
  refine lv_aload_n hx hb dX1_append_18 rfl (lv_at hl 0 rfl) ?_
  refine zq_get hx hb hts in_X1_append_X1 hown hK hP 0 rfl rfl 1 (by decide) (hts _ w_X1_append__fieldLink_RX1_15_WordsBeside_Code_lengths_I__c3572a) rfl dX1_append_19 ?_
  refine lv_iload_n hx hb dX1_append_22 rfl (lv_at hl 1 rfl) ?_
  refine lv_dup2_11 hx hb dX1_append_23 rfl rfl ?_
  refine zq_ild hx hb hK hP 2 rfl f rfl (by omega) (by decide) dX1_append_24 ?_
  refine zq_te (y := (nI n)) hln ?_
  refine lv_iconst (v := (nI 1)) hx hb dX1_append_25 (by decide) ?_
  refine lv_iadd hx hb dX1_append_26 ?_
  refine zq_te (y := (nI (n + 1))) (nI_add _ _) ?_
  refine zq_ist hx hb hK hP hD hS 2 rfl f rfl (by omega) (by decide) dX1_append_27 (fun H locs hP hD hS => ?_)
  have hP : va_P D vwCl [(cd, .inr (1, [.ref ss, .ref sl])), (ss, .inl (cI, 72, .inl st)), (sl, .inl (cI, 6, .inl (upd ln f (nI (n + 1)))))] H := hP
  have hD : va_D A [(cd, .inr (1, [.ref ss, .ref sl])), (ss, .inl (cI, 72, .inl st)), (sl, .inl (cI, 6, .inl (upd ln f (nI (n + 1)))))] := hD
  refine lv_aload_n hx hb dX1_append_28 rfl (lv_at hl 0 rfl) ?_
  refine lv_iload_n hx hb dX1_append_29 rfl (lv_at hl 1 rfl) ?_
  refine lv_aload_n hx hb dX1_append_30 rfl (lv_at hl 0 rfl) ?_
  refine zq_get hx hb hts in_X1_append_X1 hown hK hP 0 rfl rfl 1 (by decide) (hts _ w_X1_append__fieldLink_RX1_15_WordsBeside_Code_lengths_I__c3572a) rfl dX1_append_31 ?_
  refine lv_iload_n hx hb dX1_append_34 rfl (lv_at hl 1 rfl) ?_
  refine zq_ild hx hb hK hP 2 rfl f rfl (by omega) (by decide) dX1_append_35 ?_
  refine zq_te (y := (nI (n + 1))) pk_us ?_
  refine lv_iconst (v := (nI 1)) hx hb dX1_append_36 (by decide) ?_
  refine lv_isub hx hb dX1_append_37 ?_
  refine zq_te (y := (nI n)) (pk_sub (by omega)) ?_
  refine lv_iload_n hx hb dX1_append_38 rfl (lv_at hl 2 rfl) ?_
  refine zq_cM (rest := []) ⟨hx, hb, hml, hown, hts⟩ (c_X1_put l D cI cZ cW cC cd ss sl st (upd ln f (nI (n + 1))) f hf n hn x _) (cwV 3 hts gX1_append_X1_put rfl rfl rfl (by decide +kernel) ⟨Nat.le_of_ble_eq_true rfl, Nat.le_of_ble_eq_true rfl⟩) hK hP hD hS hA 1 0 rfl rfl rfl hl.1 rfl (Nat.le_of_ble_eq_true rfl) dX1_append_39 ⟨Nat.le_of_ble_eq_true rfl, Nat.le_of_ble_eq_true rfl⟩ (fun v w1 H locs hv hP hD hS => ?_)
  obtain ⟨rfl, rfl⟩ := hv
  have hP : va_P D vwCl [(cd, .inr (1, [.ref ss, .ref sl])), (ss, .inl (cI, 72, .inl (upd st (12 * f + n) x))), (sl, .inl (cI, 6, .inl (upd ln f (nI (n + 1)))))] H := hP
  have hD : va_D A [(cd, .inr (1, [.ref ss, .ref sl])), (ss, .inl (cI, 72, .inl (upd st (12 * f + n) x))), (sl, .inl (cI, 6, .inl (upd ln f (nI (n + 1)))))] := hD
  refine W.eq (g2 := F0 m 42 ls []) rfl ?_
  exact ret _ _ _ _ _ ⟨rfl, rfl⟩ hP hD hS dX1_append_42
set_option maxHeartbeats 4000000 in
set_option maxRecDepth 100000 in
theorem c_X1_runAll (l : Launch) (D : va_G) (cI cZ cW cC : ClassId) (cd ss sl : Nat) (st ln : Nat → Int32) (f : Nat) (hf : f < 6) (n : Nat) (hn : n ≤ 12) (hln : ln f = nI n) (hv : zval st f n) (w g : Nat) (G : Nat → Int32) (sz : Nat) : zq_mu l D cI cZ cW cC yX1_runAll wsX1_runAll ({ frames := 3, cells := 0, slots := 0, locals := 75 } : Room) [.ref cd, .int (nI f), .ref w] [(cd, .inr (1, [.ref ss, .ref sl])), (ss, .inl (cI, 72, .inl st)), (sl, .inl (cI, 6, .inl ln)), (w, .inr (2, [.ref g])), (g, .inl (cI, 1536, .inl G))] sz (fun v w1 => v = none ∧ ∃ G2 : Nat → Int32, w1 = [(cd, .inr (1, [.ref ss, .ref sl])), (ss, .inl (cI, 72, .inl st)), (sl, .inl (cI, 6, .inl ln)), (w, .inr (2, [.ref g])), (g, .inl (cI, 1536, .inl G2))] ∧ ∀ j, G2 j = if 256 * f ≤ j ∧ j < 256 * f + 256 then zwk G st f (j - 256 * f) n 0 false 0 else G j) 0 0 := by
  refine zq_muV (own := RX1) (by decide) rfl rfl (Nat.le_of_ble_eq_true rfl) ?_
  intro p e s m below meth c Q A ls hsz hF hin hA hP hK hD hS hl ret
  obtain ⟨hx, hb, hml, hown, hts⟩ := hF
  have hl : lv_has ls 4 [(0, .ref cd), (1, .int (nI f)), (2, .ref w)] := hl
  refine lv_iconst (v := (0 : Int32)) hx hb dX1_runAll_0 (by decide) ?_
  refine lv_istore_n (lv' := [(3, .int (nI 0)), (0, .ref cd), (1, .int (nI f)), (2, .ref w)]) hx hb dX1_runAll_1 rfl hl (by decide) rfl (fun ls hl => ?_)
  have loop2 : ∀ (fu2 : Nat) (k : Nat) (Gk : Nat → Int32) (H : Heap) (locs : List Loc) (ls : Array Slot), (256 - k) < fu2 → (k ≤ 256) → (∀ j, Gk j = if 256 * f ≤ j ∧ j < 256 * f + k then zwk G st f (j - 256 * f) n 0 false 0 else G j) → va_P D vwCl [(cd, .inr (1, [.ref ss, .ref sl])), (ss, .inl (cI, 72, .inl st)), (sl, .inl (cI, 6, .inl ln)), (w, .inr (2, [.ref g])), (g, .inl (cI, 1536, .inl Gk))] H → va_D A [(cd, .inr (1, [.ref ss, .ref sl])), (ss, .inl (cI, 72, .inl st)), (sl, .inl (cI, 6, .inl ln)), (w, .inr (2, [.ref g])), (g, .inl (cI, 1536, .inl Gk))] → va_S A s.heap H locs → lv_has ls 4 [(0, .ref cd), (1, .int (nI f)), (2, .ref w), (3, .int (nI k))] → W p l e ({ frames := 3, cells := 0, slots := 0, locals := 75 } : Room) s m ([.ref cd, .int (nI f), .ref w] : List Value).toArray below meth c H locs 0 0 Q (F0 m 2 ls []) := by
    intro fu2
    induction fu2 with
    | zero => intro _ _ _ _ _ hmu; exact absurd hmu (Nat.not_lt_zero _)
    | succ fu2 ih2 =>
      intro k Gk H locs ls hmu2 hk hG hP hD hS hl
      refine lv_iload_n hx hb dX1_runAll_2 rfl (lv_at hl 3 rfl) ?_
      refine lv_sipush (v := (nI 256)) hx hb dX1_runAll_3 (by decide) ?_
      refine lv_icmp_ge (tgt := 28) hx hb dX1_runAll_6 (by decide) (fun c6 => ?_) (fun c6 => ?_)
      · have h6 := zle c6
        exact ret _ _ _ _ _ ⟨rfl, Gk, rfl, fun j => by rw [hG j, show k = 256 by omega]⟩ hP hD hS dX1_runAll_28
      · have h6 := znle c6
        refine lv_aload_n hx hb dX1_runAll_9 rfl (lv_at hl 2 rfl) ?_
        refine lv_iload_n hx hb dX1_runAll_10 rfl (lv_at hl 1 rfl) ?_
        refine lv_iload_n hx hb dX1_runAll_11 rfl (lv_at hl 3 rfl) ?_
        refine lv_aload_n hx hb dX1_runAll_12 rfl (lv_at hl 0 rfl) ?_
        refine lv_iload_n hx hb dX1_runAll_13 rfl (lv_at hl 1 rfl) ?_
        refine lv_iload_n hx hb dX1_runAll_14 rfl (lv_at hl 3 rfl) ?_
        refine lv_aload_n hx hb dX1_runAll_15 rfl (lv_at hl 2 rfl) ?_
        refine zq_cV (rest := [.int (nI k), .int (nI f), .ref w]) ⟨hx, hb, hml, hown, hts⟩ (c_X1_goThrough l D cI cZ cW cC cd ss sl st ln f hf n hn hln w g Gk k (by omega)) (cwV 3 hts gX1_runAll_X1_goThrough rfl rfl rfl (by decide +kernel) ⟨Nat.le_of_ble_eq_true rfl, Nat.le_of_ble_eq_true rfl⟩) hK hP 1 0 rfl rfl rfl hl.1 rfl (Nat.le_of_ble_eq_true rfl) dX1_runAll_16 ⟨Nat.le_of_ble_eq_true rfl, Nat.le_of_ble_eq_true rfl⟩ (fun v hv => ?_)
        obtain rfl := hv
        refine W.eq (g2 := F0 m 19 ls [.int (zwk Gk st f k n 0 false 0), .int (nI k), .int (nI f), .ref w]) rfl ?_
        refine zq_cQ (rest := []) (X := [(cd, .inr (1, [.ref ss, .ref sl])), (ss, .inl (cI, 72, .inl st)), (sl, .inl (cI, 6, .inl ln)), (w, .inr (2, [.ref g])), (g, .inl (cI, 1536, .inl Gk))]) (pl := []) (wr := [(cd, .inr (1, [.ref ss, .ref sl])), (ss, .inl (cI, 72, .inl st)), (sl, .inl (cI, 6, .inl ln))]) ⟨hx, hb, hml, hown, hts⟩ (c_X2_put l D cI cZ cW cC w g Gk f k hf (by omega) (zwk Gk st f k n 0 false 0) _) (cwV 3 hts gX1_runAll_X2_put rfl rfl rfl (by decide +kernel) ⟨Nat.le_of_ble_eq_true rfl, Nat.le_of_ble_eq_true rfl⟩) hK hP hD hS hA [3, 4] [0, 1, 2] rfl rfl rfl rfl (by decide) 2 0 rfl rfl rfl hl.1 rfl (Nat.le_of_ble_eq_true rfl) dX1_runAll_19 ⟨Nat.le_of_ble_eq_true rfl, Nat.le_of_ble_eq_true rfl⟩ (fun v w1 H locs hv hP hD hS => ?_)
        obtain ⟨rfl, rfl⟩ := hv
        have hP : va_P D vwCl [(cd, .inr (1, [.ref ss, .ref sl])), (ss, .inl (cI, 72, .inl st)), (sl, .inl (cI, 6, .inl ln)), (w, .inr (2, [.ref g])), (g, .inl (cI, 1536, .inl (upd Gk (256 * f + k) (zwk Gk st f k n 0 false 0))))] H := hP
        have hD : va_D A [(cd, .inr (1, [.ref ss, .ref sl])), (ss, .inl (cI, 72, .inl st)), (sl, .inl (cI, 6, .inl ln)), (w, .inr (2, [.ref g])), (g, .inl (cI, 1536, .inl (upd Gk (256 * f + k) (zwk Gk st f k n 0 false 0))))] := hD
        refine W.eq (g2 := F0 m 22 ls []) rfl ?_
        refine lv_iinc (v := (nI (k + 1))) (lv' := [(3, .int (nI (k + 1))), (0, .ref cd), (1, .int (nI f)), (2, .ref w)]) hx hb dX1_runAll_22 hl (k := 3) rfl ((nI_succ _).symm) (by decide) rfl (fun ls hl => ?_)
        refine lv_goto (tgt := 2) hx hb dX1_runAll_25 (by decide) ?_
        exact ih2 (k + 1) (upd Gk (256 * f + k) (zwk Gk st f k n 0 false 0)) _ _ ls (by omega) (by omega) (fun j => by
                  have e1 : zwk Gk st f k n 0 false 0 = zwk G st f k n 0 false 0 := zwk_cong0 (fun i hi => by rw [hG i, if_neg (by omega)]) hf (by omega) hv 0
                  by_cases hj : j = 256 * f + k
                  · rw [hj, pk_us, if_pos (by omega), e1, show 256 * f + k - 256 * f = k by omega]
                  · rw [pk_un hj, hG j]
                    by_cases h2 : 256 * f ≤ j ∧ j < 256 * f + k
                    · rw [if_pos h2, if_pos (by omega)]
                    · rw [if_neg h2, if_neg (by omega)]) hP hD hS (lv_sub hl [1, 2, 3, 0] rfl)
  exact loop2 (256 + 1) 0 G _ _ ls (by omega) (by omega) (fun j => (if_neg (by omega)).symm) hP hD hS (lv_sub hl [1, 2, 3, 0] rfl)
theorem w_X1_init__arrayClass_int_d160d5 : (.arrayClass .int : Cond) ∈ wsX1_init := by decide +kernel
theorem w_X1_init__code_objectInit_0xb1_1_none_9febdb : (.code objectInit ⟨#[0xb1]⟩ 1 none : Cond) ∈ wsX1_init := by decide +kernel
theorem w_X1_init__fieldLink_RX1_15_WordsBeside_Code_lengths_I__c3572a : (.fieldLink RX1 15 "WordsBeside$Code" "lengths" "[I" : Cond) ∈ wsX1_init := by decide +kernel
theorem w_X1_init__fieldLink_RX1_9_WordsBeside_Code_steps_I__23634e : (.fieldLink RX1 9 "WordsBeside$Code" "steps" "[I" : Cond) ∈ wsX1_init := by decide +kernel
theorem w_X1_init__instanceMethod_objectInit_fba9d5 : (.instanceMethod objectInit : Cond) ∈ wsX1_init := by decide +kernel
theorem w_X1_init__methodLink_RX1_3_objectInit_00c12a : (.methodLink RX1 3 objectInit : Cond) ∈ wsX1_init := by decide +kernel
theorem in_X1_init_X1 : ∀ w ∈ wsX10, w ∈ wsX1_init := fun _ h => List.mem_cons_of_mem _ (List.mem_append_right _ h)
set_option maxHeartbeats 4000000 in
set_option maxRecDepth 100000 in
theorem c_X1_init (l : Launch) (D : va_G) (cI cZ cW cC : ClassId) (cd : Nat) (sz : Nat) : zq_mu l D cI cZ cW cC yX1_init wsX1_init ({ frames := 1, cells := 2, slots := 78, locals := 21 } : Room) [.ref cd] [(cd, .inr (1, [.null, .null]))] sz (fun v w1 => v = none ∧ ∃ ss sl : Nat, w1 = [(cd, .inr (1, [.ref ss, .ref sl])), (ss, .inl (cI, 72, .inl (fun _ => 0))), (sl, .inl (cI, 6, .inl (fun _ => 0)))]) 2 78 := by
  refine zq_muV (own := RX1) (by decide) rfl rfl (Nat.le_of_ble_eq_true rfl) ?_
  intro p e s m below meth c Q A ls hsz hF hin hA hP hK hD hS hl ret
  obtain ⟨hx, hb, hml, hown, hts⟩ := hF
  have hl : lv_has ls 1 [(0, .ref cd)] := hl
  refine lv_aload_n hx hb dX1_init_0 rfl (lv_at hl 0 rfl) ?_
  refine W.objInit hx hb hown (hts _ w_X1_init__methodLink_RX1_3_objectInit_00c12a) (hts _ w_X1_init__instanceMethod_objectInit_fba9d5) (hts _ w_X1_init__code_objectInit_0xb1_1_none_9febdb) rfl (by rw [hml]; exact hl.1) rfl dX1_init_1 (Nat.le_of_ble_eq_true rfl) (Nat.le_of_ble_eq_true rfl) ?_
  refine W.eq (g2 := F0 m 4 ls []) rfl ?_
  refine lv_aload_n hx hb dX1_init_4 rfl (lv_at hl 0 rfl) ?_
  refine lv_bipush (v := (nI 72)) hx hb dX1_init_5 (by decide) ?_
  refine zq_newi hx hb (hts _ w_X1_init__arrayClass_int_d160d5) hK hP hD hS hA 72 rfl (by decide) (Nat.le_of_ble_eq_true rfl) (Nat.le_of_ble_eq_true rfl) dX1_init_7 (fun q7 H hP hD hS => ?_)
  have hP : va_P D vwCl [(cd, .inr (1, [.null, .null])), (q7, .inl (cI, 72, .inl (fun _ => 0)))] H := hP
  have hD : va_D A [(cd, .inr (1, [.null, .null])), (q7, .inl (cI, 72, .inl (fun _ => 0)))] := hD
  refine zq_putF hx hb hts in_X1_init_X1 tyX1 tyX1_ok nmX1 hown hK hP hD hS 0 rfl rfl 0 (by decide) (hts _ w_X1_init__fieldLink_RX1_9_WordsBeside_Code_steps_I__23634e) rfl hin rfl rfl rfl (Nat.le_of_ble_eq_true rfl) dX1_init_9 (fun H locs hP hD hS => ?_)
  have hP : va_P D vwCl [(cd, .inr (1, [.ref q7, .null])), (q7, .inl (cI, 72, .inl (fun _ => 0)))] H := hP
  have hD : va_D A [(cd, .inr (1, [.ref q7, .null])), (q7, .inl (cI, 72, .inl (fun _ => 0)))] := hD
  refine lv_aload_n hx hb dX1_init_12 rfl (lv_at hl 0 rfl) ?_
  refine lv_bipush (v := (nI 6)) hx hb dX1_init_13 (by decide) ?_
  refine zq_newi hx hb (hts _ w_X1_init__arrayClass_int_d160d5) hK hP hD hS hA 6 rfl (by decide) (Nat.le_of_ble_eq_true rfl) (Nat.le_of_ble_eq_true rfl) dX1_init_15 (fun q15 H hP hD hS => ?_)
  have hP : va_P D vwCl [(cd, .inr (1, [.ref q7, .null])), (q7, .inl (cI, 72, .inl (fun _ => 0))), (q15, .inl (cI, 6, .inl (fun _ => 0)))] H := hP
  have hD : va_D A [(cd, .inr (1, [.ref q7, .null])), (q7, .inl (cI, 72, .inl (fun _ => 0))), (q15, .inl (cI, 6, .inl (fun _ => 0)))] := hD
  refine zq_putF hx hb hts in_X1_init_X1 tyX1 tyX1_ok nmX1 hown hK hP hD hS 0 rfl rfl 1 (by decide) (hts _ w_X1_init__fieldLink_RX1_15_WordsBeside_Code_lengths_I__c3572a) rfl hin rfl rfl rfl (Nat.le_of_ble_eq_true rfl) dX1_init_17 (fun H locs hP hD hS => ?_)
  have hP : va_P D vwCl [(cd, .inr (1, [.ref q7, .ref q15])), (q7, .inl (cI, 72, .inl (fun _ => 0))), (q15, .inl (cI, 6, .inl (fun _ => 0)))] H := hP
  have hD : va_D A [(cd, .inr (1, [.ref q7, .ref q15])), (q7, .inl (cI, 72, .inl (fun _ => 0))), (q15, .inl (cI, 6, .inl (fun _ => 0)))] := hD
  exact ret _ _ _ _ _ ⟨rfl, _, _, rfl⟩ hP hD hS dX1_init_20
theorem w_X2_init__arrayClass_int_d160d5 : (.arrayClass .int : Cond) ∈ wsX2_init := by decide +kernel
theorem w_X2_init__code_objectInit_0xb1_1_none_9febdb : (.code objectInit ⟨#[0xb1]⟩ 1 none : Cond) ∈ wsX2_init := by decide +kernel
theorem w_X2_init__fieldLink_RX2_9_WordsBeside_World_gives_I__36404f : (.fieldLink RX2 9 "WordsBeside$World" "gives" "[I" : Cond) ∈ wsX2_init := by decide +kernel
theorem w_X2_init__instanceMethod_objectInit_fba9d5 : (.instanceMethod objectInit : Cond) ∈ wsX2_init := by decide +kernel
theorem w_X2_init__methodLink_RX2_3_objectInit_148f03 : (.methodLink RX2 3 objectInit : Cond) ∈ wsX2_init := by decide +kernel
theorem in_X2_init_X2 : ∀ w ∈ wsX20, w ∈ wsX2_init := fun _ h => List.mem_cons_of_mem _ (List.mem_append_right _ h)
set_option maxHeartbeats 4000000 in
set_option maxRecDepth 100000 in
theorem c_X2_init (l : Launch) (D : va_G) (cI cZ cW cC : ClassId) (w : Nat) (sz : Nat) : zq_mu l D cI cZ cW cC yX2_init wsX2_init ({ frames := 1, cells := 1, slots := 1536, locals := 21 } : Room) [.ref w] [(w, .inr (2, [.null]))] sz (fun v w1 => v = none ∧ ∃ g : Nat, w1 = [(w, .inr (2, [.ref g])), (g, .inl (cI, 1536, .inl (fun _ => 0)))]) 1 1536 := by
  refine zq_muV (own := RX2) (by decide) rfl rfl (Nat.le_of_ble_eq_true rfl) ?_
  intro p e s m below meth c Q A ls hsz hF hin hA hP hK hD hS hl ret
  obtain ⟨hx, hb, hml, hown, hts⟩ := hF
  have hl : lv_has ls 1 [(0, .ref w)] := hl
  refine lv_aload_n hx hb dX2_init_0 rfl (lv_at hl 0 rfl) ?_
  refine W.objInit hx hb hown (hts _ w_X2_init__methodLink_RX2_3_objectInit_148f03) (hts _ w_X2_init__instanceMethod_objectInit_fba9d5) (hts _ w_X2_init__code_objectInit_0xb1_1_none_9febdb) rfl (by rw [hml]; exact hl.1) rfl dX2_init_1 (Nat.le_of_ble_eq_true rfl) (Nat.le_of_ble_eq_true rfl) ?_
  refine W.eq (g2 := F0 m 4 ls []) rfl ?_
  refine lv_aload_n hx hb dX2_init_4 rfl (lv_at hl 0 rfl) ?_
  refine lv_sipush (v := (nI 1536)) hx hb dX2_init_5 (by decide) ?_
  refine zq_newi hx hb (hts _ w_X2_init__arrayClass_int_d160d5) hK hP hD hS hA 1536 rfl (by decide) (Nat.le_of_ble_eq_true rfl) (Nat.le_of_ble_eq_true rfl) dX2_init_8 (fun q8 H hP hD hS => ?_)
  have hP : va_P D vwCl [(w, .inr (2, [.null])), (q8, .inl (cI, 1536, .inl (fun _ => 0)))] H := hP
  have hD : va_D A [(w, .inr (2, [.null])), (q8, .inl (cI, 1536, .inl (fun _ => 0)))] := hD
  refine zq_putF hx hb hts in_X2_init_X2 tyX2 tyX2_ok nmX2 hown hK hP hD hS 0 rfl rfl 0 (by decide) (hts _ w_X2_init__fieldLink_RX2_9_WordsBeside_World_gives_I__36404f) rfl hin rfl rfl rfl (Nat.le_of_ble_eq_true rfl) dX2_init_10 (fun H locs hP hD hS => ?_)
  have hP : va_P D vwCl [(w, .inr (2, [.ref q8])), (q8, .inl (cI, 1536, .inl (fun _ => 0)))] H := hP
  have hD : va_D A [(w, .inr (2, [.ref q8])), (q8, .inl (cI, 1536, .inl (fun _ => 0)))] := hD
  exact ret _ _ _ _ _ ⟨rfl, _, rfl⟩ hP hD hS dX2_init_13
theorem w_X0_init__code_objectInit_0xb1_1_none_9febdb : (.code objectInit ⟨#[0xb1]⟩ 1 none : Cond) ∈ wsX0_init := by decide +kernel
theorem w_X0_init__fieldLink_RX0_15_WordsBeside_Claim_kind_I__8744c5 : (.fieldLink RX0 15 "WordsBeside$Claim" "kind" "I" : Cond) ∈ wsX0_init := by decide +kernel
theorem w_X0_init__fieldLink_RX0_18_WordsBeside_Claim_p_I__01826a : (.fieldLink RX0 18 "WordsBeside$Claim" "p" "I" : Cond) ∈ wsX0_init := by decide +kernel
theorem w_X0_init__fieldLink_RX0_21_WordsBeside_Claim_q_I__6ecc41 : (.fieldLink RX0 21 "WordsBeside$Claim" "q" "I" : Cond) ∈ wsX0_init := by decide +kernel
theorem w_X0_init__fieldLink_RX0_24_WordsBeside_Claim_born_I__51e486 : (.fieldLink RX0 24 "WordsBeside$Claim" "born" "I" : Cond) ∈ wsX0_init := by decide +kernel
theorem w_X0_init__fieldLink_RX0_27_WordsBeside_Claim_lastHeld_I__a6aa0f : (.fieldLink RX0 27 "WordsBeside$Claim" "lastHeld" "I" : Cond) ∈ wsX0_init := by decide +kernel
theorem w_X0_init__fieldLink_RX0_30_WordsBeside_Claim_marked_Z__a3d833 : (.fieldLink RX0 30 "WordsBeside$Claim" "marked" "Z" : Cond) ∈ wsX0_init := by decide +kernel
theorem w_X0_init__fieldLink_RX0_9_WordsBeside_Claim_function_I__8f8278 : (.fieldLink RX0 9 "WordsBeside$Claim" "function" "I" : Cond) ∈ wsX0_init := by decide +kernel
theorem w_X0_init__instanceMethod_objectInit_fba9d5 : (.instanceMethod objectInit : Cond) ∈ wsX0_init := by decide +kernel
theorem w_X0_init__methodLink_RX0_3_objectInit_86c094 : (.methodLink RX0 3 objectInit : Cond) ∈ wsX0_init := by decide +kernel
theorem in_X0_init_X0 : ∀ w ∈ wsX00, w ∈ wsX0_init := fun _ h => List.mem_cons_of_mem _ (List.mem_append_right _ h)
set_option maxHeartbeats 4000000 in
set_option maxRecDepth 100000 in
theorem c_X0_init (l : Launch) (D : va_G) (cI cZ cW cC : ClassId) (co : Nat) (fn kd p1 q1 bn : Int32) (sz : Nat) : zq_mu l D cI cZ cW cC yX0_init wsX0_init ({ frames := 1, cells := 0, slots := 0, locals := 21 } : Room) [.ref co, .int fn, .int kd, .int p1, .int q1, .int bn] [(co, .inr (0, [.int 0, .int 0, .int 0, .int 0, .int 0, .int 0, .int 0]))] sz (fun v w1 => v = none ∧ w1 = [(co, .inr (0, [.int fn, .int kd, .int p1, .int q1, .int bn, .int (-1), .int 0]))]) 0 0 := by
  refine zq_muV (own := RX0) (by decide) rfl rfl (Nat.le_of_ble_eq_true rfl) ?_
  intro p e s m below meth c Q A ls hsz hF hin hA hP hK hD hS hl ret
  obtain ⟨hx, hb, hml, hown, hts⟩ := hF
  have hl : lv_has ls 6 [(0, .ref co), (1, .int fn), (2, .int kd), (3, .int p1), (4, .int q1), (5, .int bn)] := hl
  refine lv_aload_n hx hb dX0_init_0 rfl (lv_at hl 0 rfl) ?_
  refine W.objInit hx hb hown (hts _ w_X0_init__methodLink_RX0_3_objectInit_86c094) (hts _ w_X0_init__instanceMethod_objectInit_fba9d5) (hts _ w_X0_init__code_objectInit_0xb1_1_none_9febdb) rfl (by rw [hml]; exact hl.1) rfl dX0_init_1 (Nat.le_of_ble_eq_true rfl) (Nat.le_of_ble_eq_true rfl) ?_
  refine W.eq (g2 := F0 m 4 ls []) rfl ?_
  refine lv_aload_n hx hb dX0_init_4 rfl (lv_at hl 0 rfl) ?_
  refine lv_iload_n hx hb dX0_init_5 rfl (lv_at hl 1 rfl) ?_
  refine zq_putF hx hb hts in_X0_init_X0 tyX0 tyX0_ok nmX0 hown hK hP hD hS 0 rfl rfl 0 (by decide) (hts _ w_X0_init__fieldLink_RX0_9_WordsBeside_Claim_function_I__8f8278) rfl hin rfl rfl rfl (Nat.le_of_ble_eq_true rfl) dX0_init_6 (fun H locs hP hD hS => ?_)
  have hP : va_P D vwCl [(co, .inr (0, [.int fn, .int 0, .int 0, .int 0, .int 0, .int 0, .int 0]))] H := hP
  have hD : va_D A [(co, .inr (0, [.int fn, .int 0, .int 0, .int 0, .int 0, .int 0, .int 0]))] := hD
  refine lv_aload_n hx hb dX0_init_9 rfl (lv_at hl 0 rfl) ?_
  refine lv_iload_n hx hb dX0_init_10 rfl (lv_at hl 2 rfl) ?_
  refine zq_putF hx hb hts in_X0_init_X0 tyX0 tyX0_ok nmX0 hown hK hP hD hS 0 rfl rfl 1 (by decide) (hts _ w_X0_init__fieldLink_RX0_15_WordsBeside_Claim_kind_I__8744c5) rfl hin rfl rfl rfl (Nat.le_of_ble_eq_true rfl) dX0_init_11 (fun H locs hP hD hS => ?_)
  have hP : va_P D vwCl [(co, .inr (0, [.int fn, .int kd, .int 0, .int 0, .int 0, .int 0, .int 0]))] H := hP
  have hD : va_D A [(co, .inr (0, [.int fn, .int kd, .int 0, .int 0, .int 0, .int 0, .int 0]))] := hD
  refine lv_aload_n hx hb dX0_init_14 rfl (lv_at hl 0 rfl) ?_
  refine lv_iload_n hx hb dX0_init_15 rfl (lv_at hl 3 rfl) ?_
  refine zq_put hx hb hts in_X0_init_X0 tyX0 tyX0_ok nmX0 hown hK hP hD hS 0 rfl rfl 2 (by decide) (hts _ w_X0_init__fieldLink_RX0_18_WordsBeside_Claim_p_I__01826a) rfl rfl rfl (Nat.le_of_ble_eq_true rfl) dX0_init_16 (fun H locs hP hD hS => ?_)
  have hP : va_P D vwCl [(co, .inr (0, [.int fn, .int kd, .int p1, .int 0, .int 0, .int 0, .int 0]))] H := hP
  have hD : va_D A [(co, .inr (0, [.int fn, .int kd, .int p1, .int 0, .int 0, .int 0, .int 0]))] := hD
  refine lv_aload_n hx hb dX0_init_19 rfl (lv_at hl 0 rfl) ?_
  refine lv_iload hx hb dX0_init_20 (lv_at hl 4 rfl) ?_
  refine zq_put hx hb hts in_X0_init_X0 tyX0 tyX0_ok nmX0 hown hK hP hD hS 0 rfl rfl 3 (by decide) (hts _ w_X0_init__fieldLink_RX0_21_WordsBeside_Claim_q_I__6ecc41) rfl rfl rfl (Nat.le_of_ble_eq_true rfl) dX0_init_22 (fun H locs hP hD hS => ?_)
  have hP : va_P D vwCl [(co, .inr (0, [.int fn, .int kd, .int p1, .int q1, .int 0, .int 0, .int 0]))] H := hP
  have hD : va_D A [(co, .inr (0, [.int fn, .int kd, .int p1, .int q1, .int 0, .int 0, .int 0]))] := hD
  refine lv_aload_n hx hb dX0_init_25 rfl (lv_at hl 0 rfl) ?_
  refine lv_iload hx hb dX0_init_26 (lv_at hl 5 rfl) ?_
  refine zq_putF hx hb hts in_X0_init_X0 tyX0 tyX0_ok nmX0 hown hK hP hD hS 0 rfl rfl 4 (by decide) (hts _ w_X0_init__fieldLink_RX0_24_WordsBeside_Claim_born_I__51e486) rfl hin rfl rfl rfl (Nat.le_of_ble_eq_true rfl) dX0_init_28 (fun H locs hP hD hS => ?_)
  have hP : va_P D vwCl [(co, .inr (0, [.int fn, .int kd, .int p1, .int q1, .int bn, .int 0, .int 0]))] H := hP
  have hD : va_D A [(co, .inr (0, [.int fn, .int kd, .int p1, .int q1, .int bn, .int 0, .int 0]))] := hD
  refine lv_aload_n hx hb dX0_init_31 rfl (lv_at hl 0 rfl) ?_
  refine lv_iconst (v := (-1 : Int32)) hx hb dX0_init_32 (by decide) ?_
  refine zq_put hx hb hts in_X0_init_X0 tyX0 tyX0_ok nmX0 hown hK hP hD hS 0 rfl rfl 5 (by decide) (hts _ w_X0_init__fieldLink_RX0_27_WordsBeside_Claim_lastHeld_I__a6aa0f) rfl rfl rfl (Nat.le_of_ble_eq_true rfl) dX0_init_33 (fun H locs hP hD hS => ?_)
  have hP : va_P D vwCl [(co, .inr (0, [.int fn, .int kd, .int p1, .int q1, .int bn, .int (-1 : Int32), .int 0]))] H := hP
  have hD : va_D A [(co, .inr (0, [.int fn, .int kd, .int p1, .int q1, .int bn, .int (-1 : Int32), .int 0]))] := hD
  refine lv_aload_n hx hb dX0_init_36 rfl (lv_at hl 0 rfl) ?_
  refine lv_iconst (v := (0 : Int32)) hx hb dX0_init_37 (by decide) ?_
  refine zq_put hx hb hts in_X0_init_X0 tyX0 tyX0_ok nmX0 hown hK hP hD hS 0 rfl rfl 6 (by decide) (hts _ w_X0_init__fieldLink_RX0_30_WordsBeside_Claim_marked_Z__a3d833) rfl rfl rfl (Nat.le_of_ble_eq_true rfl) dX0_init_38 (fun H locs hP hD hS => ?_)
  have hP : va_P D vwCl [(co, .inr (0, [.int fn, .int kd, .int p1, .int q1, .int bn, .int (-1 : Int32), .int (0 : Int32)]))] H := hP
  have hD : va_D A [(co, .inr (0, [.int fn, .int kd, .int p1, .int q1, .int bn, .int (-1 : Int32), .int (0 : Int32)]))] := hD
  exact ret _ _ _ _ _ ⟨rfl, rfl⟩ hP hD hS dX0_init_41
theorem w_X2_copy__classLink_RX2_10_RX2_5231ba : (.classLink RX2 10 RX2 : Cond) ∈ wsX2_copy := by decide +kernel
theorem w_X2_copy__fieldLink_RX2_9_WordsBeside_World_gives_I__36404f : (.fieldLink RX2 9 "WordsBeside$World" "gives" "[I" : Cond) ∈ wsX2_copy := by decide +kernel
theorem w_X2_copy__initialized_java_lang_System__4260ff : (.initialized "java/lang/System" : Cond) ∈ wsX2_copy := by decide +kernel
theorem w_X2_copy__initialized_RX2_aeeb22 : (.initialized RX2 : Cond) ∈ wsX2_copy := by decide +kernel
theorem w_X2_copy__instanceMethod_yX2_init_ec8cce : (.instanceMethod yX2_init : Cond) ∈ wsX2_copy := by decide +kernel
theorem w_X2_copy__instantiable_RX2_1_ac440c : (.instantiable RX2 1 : Cond) ∈ wsX2_copy := by decide +kernel
theorem w_X2_copy__methodLink_RX2_15_yX2_init_8aacae : (.methodLink RX2 15 yX2_init : Cond) ∈ wsX2_copy := by decide +kernel
theorem w_X2_copy__methodLink_RX2_16_arraycopyName_90233c : (.methodLink RX2 16 arraycopyName : Cond) ∈ wsX2_copy := by decide +kernel
theorem w_X2_copy__native_arraycopyName_a648c8 : (.native arraycopyName : Cond) ∈ wsX2_copy := by decide +kernel
theorem w_X2_copy__static_arraycopyName_410d49 : (.static arraycopyName : Cond) ∈ wsX2_copy := by decide +kernel
theorem in_X2_copy_X2 : ∀ w ∈ wsX20, w ∈ wsX2_copy := fun _ h => List.mem_cons_of_mem _ (List.mem_append_right _ h)
set_option maxHeartbeats 4000000 in
set_option maxRecDepth 100000 in
theorem c_X2_copy (l : Launch) (D : va_G) (cI cZ cW cC : ClassId) (w g : Nat) (G : Nat → Int32) (sz : Nat) : zq_mu l D cI cZ cW cC yX2_copy wsX2_copy ({ frames := 2, cells := 2, slots := 1537, locals := 60 } : Room) [.ref w] [(w, .inr (2, [.ref g])), (g, .inl (cI, 1536, .inl G))] sz (fun v w1 => ∃ (w2 g2 : Nat) (G2 : Nat → Int32), v = some (.ref w2) ∧ w1 = [(w, .inr (2, [.ref g])), (g, .inl (cI, 1536, .inl G)), (w2, .inr (2, [.ref g2])), (g2, .inl (cI, 1536, .inl G2))] ∧ ∀ j, j < 1536 → G2 j = G j) 2 1537 := by
  refine zq_muA (own := RX2) (by decide) rfl rfl (Nat.le_of_ble_eq_true rfl) ?_
  intro p e s m below meth c Q A ls hsz hF hin hA hP hK hD hS hl ret
  obtain ⟨hx, hb, hml, hown, hts⟩ := hF
  have hl : lv_has ls 2 [(0, .ref w)] := hl
  refine va_new (ci := 2) (fs := [.null]) (C := RX2) (T := TX2) (N := 1) hx hb hts in_X2_copy_X2 tyX2 tyX2_ok hown (hts _ w_X2_copy__classLink_RX2_10_RX2_5231ba) (hts _ w_X2_copy__instantiable_RX2_1_ac440c) (hts _ w_X2_copy__initialized_RX2_aeeb22) hK.1 hP hD hS hA rfl (fun j hj => by rcases (show j = 0 by omega) with rfl <;> rfl) (Nat.le_of_ble_eq_true rfl) (Nat.le_of_ble_eq_true rfl) dX2_copy_0 (fun q0 H hP hD hS => ?_)
  have hP : va_P D vwCl [(w, .inr (2, [.ref g])), (g, .inl (cI, 1536, .inl G)), (q0, .inr (2, [.null]))] H := hP
  have hD : va_D A [(w, .inr (2, [.ref g])), (g, .inl (cI, 1536, .inl G)), (q0, .inr (2, [.null]))] := hD
  refine lv_dup hx hb dX2_copy_3 rfl ?_
  refine zq_cI (rest := [.ref q0]) (X := [(w, .inr (2, [.ref g])), (g, .inl (cI, 1536, .inl G)), (q0, .inr (2, [.null]))]) (pl := []) (wr := [(w, .inr (2, [.ref g])), (g, .inl (cI, 1536, .inl G))]) ⟨hx, hb, hml, hown, hts⟩ (c_X2_init l D cI cZ cW cC q0 _) (cwI 0 hts gX2_copy_X2_init rfl rfl rfl (hts _ w_X2_copy__initialized_RX2_aeeb22) (hts _ w_X2_copy__methodLink_RX2_15_yX2_init_8aacae) (hts _ w_X2_copy__instanceMethod_yX2_init_ec8cce) rfl (by decide +kernel) ⟨Nat.le_of_ble_eq_true rfl, Nat.le_of_ble_eq_true rfl⟩) hK hP hD hS hA [2] [0, 1] rfl rfl rfl rfl (by decide) rfl hl.1 rfl (Nat.le_of_ble_eq_true rfl) dX2_copy_4 ⟨Nat.le_of_ble_eq_true rfl, Nat.le_of_ble_eq_true rfl⟩ (fun v w1 H locs hv hP hD hS => ?_)
  obtain ⟨rfl, a0, rfl⟩ := hv
  have hP : va_P D vwCl [(w, .inr (2, [.ref g])), (g, .inl (cI, 1536, .inl G)), (q0, .inr (2, [.ref a0])), (a0, .inl (cI, 1536, .inl (fun _ => 0)))] H := hP
  have hD : va_D A [(w, .inr (2, [.ref g])), (g, .inl (cI, 1536, .inl G)), (q0, .inr (2, [.ref a0])), (a0, .inl (cI, 1536, .inl (fun _ => 0)))] := hD
  refine W.eq (g2 := F0 m 7 ls [.ref q0]) rfl ?_
  refine lv_astore_n (lv' := [(1, .ref q0), (0, .ref w)]) hx hb dX2_copy_7 rfl hl (by decide) rfl (fun ls hl => ?_)
  refine lv_aload_n hx hb dX2_copy_8 rfl (lv_at hl 1 rfl) ?_
  refine zq_get hx hb hts in_X2_copy_X2 hown hK hP 0 rfl rfl 0 (by decide) (hts _ w_X2_copy__fieldLink_RX2_9_WordsBeside_World_gives_I__36404f) rfl dX2_copy_9 ?_
  refine lv_iconst (v := (0 : Int32)) hx hb dX2_copy_12 (by decide) ?_
  refine lv_aload_n hx hb dX2_copy_13 rfl (lv_at hl 0 rfl) ?_
  refine zq_get hx hb hts in_X2_copy_X2 hown hK hP 2 rfl rfl 0 (by decide) (hts _ w_X2_copy__fieldLink_RX2_9_WordsBeside_World_gives_I__36404f) rfl dX2_copy_14 ?_
  refine lv_iconst (v := (0 : Int32)) hx hb dX2_copy_17 (by decide) ?_
  refine lv_aload_n hx hb dX2_copy_18 rfl (lv_at hl 1 rfl) ?_
  refine zq_get hx hb hts in_X2_copy_X2 hown hK hP 0 rfl rfl 0 (by decide) (hts _ w_X2_copy__fieldLink_RX2_9_WordsBeside_World_gives_I__36404f) rfl dX2_copy_19 ?_
  refine va_alen hx hb hK.1 hP 1 0 rfl rfl (v := (nI 1536)) rfl dX2_copy_22 ?_
  refine va_copyi (rest := []) hx hb (hml.trans hl.1.symm) hown (hts _ w_X2_copy__methodLink_RX2_16_arraycopyName_90233c) (hts _ w_X2_copy__native_arraycopyName_a648c8) (hts _ w_X2_copy__static_arraycopyName_410d49) (hts _ w_X2_copy__initialized_java_lang_System__4260ff) hK.1 hP hD hS 1 3 0 0 rfl rfl rfl rfl rfl (by decide) (by decide) (by decide) (by decide) (by decide) (fun _ _ => rfl) (Nat.le_of_ble_eq_true rfl) (by decide +kernel) dX2_copy_23 (fun H locs hP hD hS => ?_)
  have hP : va_P D vwCl [(w, .inr (2, [.ref g])), (g, .inl (cI, 1536, .inl G)), (q0, .inr (2, [.ref a0])), (a0, .inl (cI, 1536, .inl (va_cpy G (fun _ => 0) 0 0 1536)))] H := hP
  have hD : va_D A [(w, .inr (2, [.ref g])), (g, .inl (cI, 1536, .inl G)), (q0, .inr (2, [.ref a0])), (a0, .inl (cI, 1536, .inl (va_cpy G (fun _ => 0) 0 0 1536)))] := hD
  refine lv_aload_n hx hb dX2_copy_26 rfl (lv_at hl 0 rfl) ?_
  exact ret _ _ _ _ _ _ ⟨_, _, _, rfl, rfl, fun j hj => sb_cpy0 hj⟩ hP hD hS dX2_copy_27
