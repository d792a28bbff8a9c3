/-! the law: its fifteen cases -/
set_option maxHeartbeats 4000000 in
set_option maxRecDepth 100000 in
theorem lk_0 {p : Program} {l : Launch} {e : Env} {s : State} {m : MethodId} {below : List Frame} {meth : Method} {c : Code} {D : va_G} {cI cZ cW cC : ClassId} {b Ls : Nat} {xs : Nat → Int32} {aX aM : Nat → Nat} {u cells slots : Nat} {H : Heap} {locs : List Loc} {ls : Array Slot} {ws : va_W} {Q : State → Prop}
    (hFx : CallFix p m c code 4 s #[Value.ref b] wsL_law RL) (hX : va_X b Ls xs s s.heap) (hbl : b < s.heap.size) (hu : u + 5 ≤ Ls) (hLs : Ls ≤ 2560) (hcl : cells + 2 ≤ 600000) (hsl : slots + 1537 ≤ 7302250) (hK : zq_K D cI cZ cW cC s) (hJ : zJ cI cZ cW cC aX aM ws) (hP : va_P D vwCl ws H) (hD : va_D (fun q : Nat => s.heap.size ≤ q) ws) (hS : va_S (fun q : Nat => s.heap.size ≤ q) s.heap H locs) (hl : lv_has ls 4 [(0, .ref b), (1, .ref (aX 0)), (2, .ref (aM 0)), (3, .int (nI u))])
    (kk : ∀ (ws : va_W) (H : Heap) (locs : List Loc), zJ cI cZ cW cC aX aM ws → va_P D vwCl ws H → va_D (fun q : Nat => s.heap.size ≤ q) ws → va_S (fun q : Nat => s.heap.size ≤ q) s.heap H locs → W p l e room_1 s m #[Value.ref b] below meth c H locs (cells + 2) (slots + 1537) Q (F0 m 573 ls [])) :
    W p l e room_1 s m #[Value.ref b] below meth c H locs cells slots Q (F0 m 108 ls []) := by
  obtain ⟨hx, hb, hml, hown, hts⟩ := hFx
  obtain ⟨st, ln, N, L, k, n, sn, gv, oF, kF, fF, sF, bF, mF, hF, m1, m2, fs, fc, hm, PL, pf, wo, go, co, fo, bo, Gs, rfl, HJ⟩ := hJ
  obtain ⟨⟨hk, hn, hsn⟩, HL, HV, hOK, hGt, HW, HC, HH, hGs, hm0⟩ := id HJ
  have hA : ∀ q : Nat, s.heap.size ≤ q → (fun q : Nat => s.heap.size ≤ q) q := fun _ h => h
  have hbA : ¬ (fun q : Nat => s.heap.size ≤ q) b := Nat.not_le.mpr hbl
  have hfo : ∀ i, i < n → fo i < 6 := fun i hi => (HH i hi).2.1
  have hk8 : ∀ i, i < n → zr 8 (kF i) := fun i hi => (HH i hi).2.2.1
  have h5 : ∀ i, i < n → kF i = 5 → zr 256 (fF i) := fun i hi => (HH i hi).2.2.2.2.1
  have hbk : ∀ i, i < n → bo i ≤ k := fun i hi => (HH i hi).2.2.2.2.2.2.2
  refine lv_aload_n hx hb dL_law_108 rfl (lv_at hl 1 rfl) ?_
  refine lv_aload_n hx hb dL_law_109 rfl (lv_at hl 0 rfl) ?_
  refine lv_iload_n hx hb dL_law_110 rfl (lv_at hl 3 rfl) ?_
  refine lv_iconst (v := (nI 1)) hx hb dL_law_111 (by decide) ?_
  refine lv_iadd hx hb dL_law_112 ?_
  refine zq_te (y := (nI (u + 1))) (nI_add _ _) ?_
  refine zq_sld hx hb hX hbl hbA hS (u + 1) (by omega) hLs dL_law_113 ?_
  refine zq_cZ (rest := []) ⟨hx, hb, hml, hown, hts⟩ (c_X3_clear l D cI cZ cW cC aX st ln N fs fc hm (nI sn) (nI k) (nI n) PL pf sn hsn rfl (xs (u + 1)) _) (cwV 1 hts gL_law_X3_clear rfl rfl rfl (by decide +kernel) ⟨Nat.le_of_ble_eq_true rfl, Nat.le_of_ble_eq_true rfl⟩) hK hP hD hS hA 3 0 rfl rfl rfl hl.1 rfl (Nat.le_of_ble_eq_true rfl) dL_law_114 ⟨by show _ ≤ 600000; omega, by show _ ≤ 7302250; omega⟩ (fun v w1 H locs hv hP hD hS => ?_)
  rcases hv with ⟨f, hf, efx, rfl, rfl⟩ | ⟨hyf, rfl, rfl⟩
  · refine W.eq (g2 := F0 m 117 ls [.int 1]) rfl ?_
    refine lv_aload_n hx hb dL_law_117 rfl (lv_at hl 2 rfl) ?_
    refine lv_aload_n hx hb dL_law_118 rfl (lv_at hl 0 rfl) ?_
    refine lv_iload_n hx hb dL_law_119 rfl (lv_at hl 3 rfl) ?_
    refine lv_iconst (v := (nI 1)) hx hb dL_law_120 (by decide) ?_
    refine lv_iadd hx hb dL_law_121 ?_
    refine zq_te (y := (nI (u + 1))) (nI_add _ _) ?_
    refine zq_sld hx hb hX hbl hbA hS (u + 1) (by omega) hLs dL_law_122 ?_
    have hP := zP_flip hP
    have hD := zD_flip hD
    refine zq_cZ (rest := [.int 1]) ⟨hx, hb, hml, hown, hts⟩ (c_X4_clear l D cI cZ cW cC aM ln st gv oF kF fF sF bF mF hF (nI k) (nI n) m1 m2 L HL HV (xs (u + 1)) _) (cwV 1 hts gL_law_X4_clear rfl rfl rfl (by decide +kernel) ⟨Nat.le_of_ble_eq_true rfl, Nat.le_of_ble_eq_true rfl⟩) hK hP hD hS hA 4 0 rfl rfl rfl hl.1 rfl (Nat.le_of_ble_eq_true rfl) dL_law_123 ⟨by show _ ≤ 600000; omega, by show _ ≤ 7302250; omega⟩ (fun v w1 H locs hv hP hD hS => ?_)
    rcases hv with ⟨f2, hf2, efx2, rfl, g2, rfl, hg2, hO2⟩ | ⟨hyf2, rfl, rfl⟩
    · have hP := zP_flip hP
      have hD := zD_flip hD
      have e2 := zeq (efx.symm.trans efx2)
      subst e2
      refine W.eq (g2 := F0 m 126 ls [.int 1, .int 1]) rfl ?_
      refine lv_icmp_eq (tgt := 573) hx hb dL_law_126 (by decide) (fun _ => ?_) (fun hne => absurd rfl hne)
      refine W.widen (k := cells + 2) (n := slots + 1537) (by omega) (by omega) ?_
      exact kk _ _ _ (zJ_mk (zJ_clear HJ hg2 hO2)) hP hD hS
    · exact absurd (hyf2 ⟨f, hf, efx⟩) id
  · refine W.eq (g2 := F0 m 117 ls [.int 0]) rfl ?_
    refine lv_aload_n hx hb dL_law_117 rfl (lv_at hl 2 rfl) ?_
    refine lv_aload_n hx hb dL_law_118 rfl (lv_at hl 0 rfl) ?_
    refine lv_iload_n hx hb dL_law_119 rfl (lv_at hl 3 rfl) ?_
    refine lv_iconst (v := (nI 1)) hx hb dL_law_120 (by decide) ?_
    refine lv_iadd hx hb dL_law_121 ?_
    refine zq_te (y := (nI (u + 1))) (nI_add _ _) ?_
    refine zq_sld hx hb hX hbl hbA hS (u + 1) (by omega) hLs dL_law_122 ?_
    have hP := zP_flip hP
    have hD := zD_flip hD
    refine zq_cZ (rest := [.int 0]) ⟨hx, hb, hml, hown, hts⟩ (c_X4_clear l D cI cZ cW cC aM ln st gv oF kF fF sF bF mF hF (nI k) (nI n) m1 m2 L HL HV (xs (u + 1)) _) (cwV 1 hts gL_law_X4_clear rfl rfl rfl (by decide +kernel) ⟨Nat.le_of_ble_eq_true rfl, Nat.le_of_ble_eq_true rfl⟩) hK hP hD hS hA 4 0 rfl rfl rfl hl.1 rfl (Nat.le_of_ble_eq_true rfl) dL_law_123 ⟨by show _ ≤ 600000; omega, by show _ ≤ 7302250; omega⟩ (fun v w1 H locs hv hP hD hS => ?_)
    rcases hv with ⟨f2, hf2, efx2, rfl, g2, rfl, hg2, hO2⟩ | ⟨hyf2, rfl, rfl⟩
    · exact absurd (hyf ⟨f2, hf2, efx2⟩) id
    · have hP := zP_flip hP
      have hD := zD_flip hD
      refine W.eq (g2 := F0 m 126 ls [.int 0, .int 0]) rfl ?_
      refine lv_icmp_eq (tgt := 573) hx hb dL_law_126 (by decide) (fun _ => ?_) (fun hne => absurd rfl hne)
      refine W.widen (k := cells + 2) (n := slots + 1537) (by omega) (by omega) ?_
      exact kk _ _ _ (zJ_mk HJ) hP hD hS
set_option maxHeartbeats 4000000 in
set_option maxRecDepth 100000 in
theorem lk_1 {p : Program} {l : Launch} {e : Env} {s : State} {m : MethodId} {below : List Frame} {meth : Method} {c : Code} {D : va_G} {cI cZ cW cC : ClassId} {b Ls : Nat} {xs : Nat → Int32} {aX aM : Nat → Nat} {u cells slots : Nat} {H : Heap} {locs : List Loc} {ls : Array Slot} {ws : va_W} {Q : State → Prop}
    (hFx : CallFix p m c code 4 s #[Value.ref b] wsL_law RL) (hX : va_X b Ls xs s s.heap) (hbl : b < s.heap.size) (hu : u + 5 ≤ Ls) (hLs : Ls ≤ 2560) (hcl : cells + 2 ≤ 600000) (hsl : slots + 1537 ≤ 7302250) (hK : zq_K D cI cZ cW cC s) (hJ : zJ cI cZ cW cC aX aM ws) (hP : va_P D vwCl ws H) (hD : va_D (fun q : Nat => s.heap.size ≤ q) ws) (hS : va_S (fun q : Nat => s.heap.size ≤ q) s.heap H locs) (hl : lv_has ls 4 [(0, .ref b), (1, .ref (aX 0)), (2, .ref (aM 0)), (3, .int (nI u))])
    (kk : ∀ (ws : va_W) (H : Heap) (locs : List Loc), zJ cI cZ cW cC aX aM ws → va_P D vwCl ws H → va_D (fun q : Nat => s.heap.size ≤ q) ws → va_S (fun q : Nat => s.heap.size ≤ q) s.heap H locs → W p l e room_1 s m #[Value.ref b] below meth c H locs (cells + 2) (slots + 1537) Q (F0 m 573 ls [])) :
    W p l e room_1 s m #[Value.ref b] below meth c H locs cells slots Q (F0 m 131 ls []) := by
  obtain ⟨hx, hb, hml, hown, hts⟩ := hFx
  obtain ⟨st, ln, N, L, k, n, sn, gv, oF, kF, fF, sF, bF, mF, hF, m1, m2, fs, fc, hm, PL, pf, wo, go, co, fo, bo, Gs, rfl, HJ⟩ := hJ
  obtain ⟨⟨hk, hn, hsn⟩, HL, HV, hOK, hGt, HW, HC, HH, hGs, hm0⟩ := id HJ
  have hA : ∀ q : Nat, s.heap.size ≤ q → (fun q : Nat => s.heap.size ≤ q) q := fun _ h => h
  have hbA : ¬ (fun q : Nat => s.heap.size ≤ q) b := Nat.not_le.mpr hbl
  have hfo : ∀ i, i < n → fo i < 6 := fun i hi => (HH i hi).2.1
  have hk8 : ∀ i, i < n → zr 8 (kF i) := fun i hi => (HH i hi).2.2.1
  have h5 : ∀ i, i < n → kF i = 5 → zr 256 (fF i) := fun i hi => (HH i hi).2.2.2.2.1
  have hbk : ∀ i, i < n → bo i ≤ k := fun i hi => (HH i hi).2.2.2.2.2.2.2
  refine lv_aload_n hx hb dL_law_131 rfl (lv_at hl 1 rfl) ?_
  refine lv_aload_n hx hb dL_law_132 rfl (lv_at hl 0 rfl) ?_
  refine lv_iload_n hx hb dL_law_133 rfl (lv_at hl 3 rfl) ?_
  refine lv_iconst (v := (nI 1)) hx hb dL_law_134 (by decide) ?_
  refine lv_iadd hx hb dL_law_135 ?_
  refine zq_te (y := (nI (u + 1))) (nI_add _ _) ?_
  refine zq_sld hx hb hX hbl hbA hS (u + 1) (by omega) hLs dL_law_136 ?_
  refine lv_aload_n hx hb dL_law_137 rfl (lv_at hl 0 rfl) ?_
  refine lv_iload_n hx hb dL_law_138 rfl (lv_at hl 3 rfl) ?_
  refine lv_iconst (v := (nI 2)) hx hb dL_law_139 (by decide) ?_
  refine lv_iadd hx hb dL_law_140 ?_
  refine zq_te (y := (nI (u + 2))) (nI_add _ _) ?_
  refine zq_sld hx hb hX hbl hbA hS (u + 2) (by omega) hLs dL_law_141 ?_
  refine zq_cZ (rest := []) ⟨hx, hb, hml, hown, hts⟩ (c_X3_step l D cI cZ cW cC aX st ln N fs fc hm (nI sn) (nI k) (nI n) PL pf sn hsn rfl L HL HV (xs (u + 1)) (xs (u + 2)) _) (cwV 2 hts gL_law_X3_step rfl rfl rfl (by decide +kernel) ⟨Nat.le_of_ble_eq_true rfl, Nat.le_of_ble_eq_true rfl⟩) hK hP hD hS hA 3 0 rfl rfl rfl hl.1 rfl (Nat.le_of_ble_eq_true rfl) dL_law_142 ⟨by show _ ≤ 600000; omega, by show _ ≤ 7302250; omega⟩ (fun v w1 H locs hv hP hD hS => ?_)
  rcases hv with ⟨f, hf, efx, hL1, hcan, rfl, rfl⟩ | ⟨hyf, rfl, rfl⟩
  · refine W.eq (g2 := F0 m 145 ls [.int (nI (L f + 1))]) rfl ?_
    refine lv_aload_n hx hb dL_law_145 rfl (lv_at hl 2 rfl) ?_
    refine lv_aload_n hx hb dL_law_146 rfl (lv_at hl 0 rfl) ?_
    refine lv_iload_n hx hb dL_law_147 rfl (lv_at hl 3 rfl) ?_
    refine lv_iconst (v := (nI 1)) hx hb dL_law_148 (by decide) ?_
    refine lv_iadd hx hb dL_law_149 ?_
    refine zq_te (y := (nI (u + 1))) (nI_add _ _) ?_
    refine zq_sld hx hb hX hbl hbA hS (u + 1) (by omega) hLs dL_law_150 ?_
    refine lv_aload_n hx hb dL_law_151 rfl (lv_at hl 0 rfl) ?_
    refine lv_iload_n hx hb dL_law_152 rfl (lv_at hl 3 rfl) ?_
    refine lv_iconst (v := (nI 2)) hx hb dL_law_153 (by decide) ?_
    refine lv_iadd hx hb dL_law_154 ?_
    refine zq_te (y := (nI (u + 2))) (nI_add _ _) ?_
    refine zq_sld hx hb hX hbl hbA hS (u + 2) (by omega) hLs dL_law_155 ?_
    have hP := zP_flip hP
    have hD := zD_flip hD
    refine zq_cZ (rest := [.int (nI (L f + 1))]) ⟨hx, hb, hml, hown, hts⟩ (c_X4_step l D cI cZ cW cC aM ln st gv oF kF fF sF bF mF hF (nI k) (nI n) m1 m2 L HL HV (xs (u + 1)) (xs (u + 2)) _) (cwV 2 hts gL_law_X4_step rfl rfl rfl (by decide +kernel) ⟨Nat.le_of_ble_eq_true rfl, Nat.le_of_ble_eq_true rfl⟩) hK hP hD hS hA 4 0 rfl rfl rfl hl.1 rfl (Nat.le_of_ble_eq_true rfl) dL_law_156 ⟨by show _ ≤ 600000; omega, by show _ ≤ 7302250; omega⟩ (fun v w1 H locs hv hP hD hS => ?_)
    rcases hv with ⟨f2, hf2, efx2, hL2, hcan2, rfl, g2, rfl, hg2, hO2⟩ | ⟨hyf2, rfl, rfl⟩
    · have hP := zP_flip hP
      have hD := zD_flip hD
      have e2 := zeq (efx.symm.trans efx2)
      subst e2
      refine W.eq (g2 := F0 m 159 ls [.int (nI (L f + 1)), .int (nI (L f + 1))]) rfl ?_
      refine lv_icmp_eq (tgt := 573) hx hb dL_law_159 (by decide) (fun _ => ?_) (fun hne => absurd rfl hne)
      refine W.widen (k := cells + 2) (n := slots + 1537) (by omega) (by omega) ?_
      exact kk _ _ _ (zJ_mk (zJ_step HJ hf hL1 hcan hg2 hO2)) hP hD hS
    · exact absurd (hyf2 ⟨f, hf, efx, hL1, hcan⟩) id
  · refine W.eq (g2 := F0 m 145 ls [.int (-1)]) rfl ?_
    refine lv_aload_n hx hb dL_law_145 rfl (lv_at hl 2 rfl) ?_
    refine lv_aload_n hx hb dL_law_146 rfl (lv_at hl 0 rfl) ?_
    refine lv_iload_n hx hb dL_law_147 rfl (lv_at hl 3 rfl) ?_
    refine lv_iconst (v := (nI 1)) hx hb dL_law_148 (by decide) ?_
    refine lv_iadd hx hb dL_law_149 ?_
    refine zq_te (y := (nI (u + 1))) (nI_add _ _) ?_
    refine zq_sld hx hb hX hbl hbA hS (u + 1) (by omega) hLs dL_law_150 ?_
    refine lv_aload_n hx hb dL_law_151 rfl (lv_at hl 0 rfl) ?_
    refine lv_iload_n hx hb dL_law_152 rfl (lv_at hl 3 rfl) ?_
    refine lv_iconst (v := (nI 2)) hx hb dL_law_153 (by decide) ?_
    refine lv_iadd hx hb dL_law_154 ?_
    refine zq_te (y := (nI (u + 2))) (nI_add _ _) ?_
    refine zq_sld hx hb hX hbl hbA hS (u + 2) (by omega) hLs dL_law_155 ?_
    have hP := zP_flip hP
    have hD := zD_flip hD
    refine zq_cZ (rest := [.int (-1)]) ⟨hx, hb, hml, hown, hts⟩ (c_X4_step l D cI cZ cW cC aM ln st gv oF kF fF sF bF mF hF (nI k) (nI n) m1 m2 L HL HV (xs (u + 1)) (xs (u + 2)) _) (cwV 2 hts gL_law_X4_step rfl rfl rfl (by decide +kernel) ⟨Nat.le_of_ble_eq_true rfl, Nat.le_of_ble_eq_true rfl⟩) hK hP hD hS hA 4 0 rfl rfl rfl hl.1 rfl (Nat.le_of_ble_eq_true rfl) dL_law_156 ⟨by show _ ≤ 600000; omega, by show _ ≤ 7302250; omega⟩ (fun v w1 H locs hv hP hD hS => ?_)
    rcases hv with ⟨f2, hf2, efx2, hL2, hcan2, rfl, g2, rfl, hg2, hO2⟩ | ⟨hyf2, rfl, rfl⟩
    · exact absurd (hyf ⟨f2, hf2, efx2, hL2, hcan2⟩) id
    · have hP := zP_flip hP
      have hD := zD_flip hD
      refine W.eq (g2 := F0 m 159 ls [.int (-1), .int (-1)]) rfl ?_
      refine lv_icmp_eq (tgt := 573) hx hb dL_law_159 (by decide) (fun _ => ?_) (fun hne => absurd rfl hne)
      refine W.widen (k := cells + 2) (n := slots + 1537) (by omega) (by omega) ?_
      exact kk _ _ _ (zJ_mk HJ) hP hD hS
set_option maxHeartbeats 4000000 in
set_option maxRecDepth 100000 in
theorem lk_2 {p : Program} {l : Launch} {e : Env} {s : State} {m : MethodId} {below : List Frame} {meth : Method} {c : Code} {D : va_G} {cI cZ cW cC : ClassId} {b Ls : Nat} {xs : Nat → Int32} {aX aM : Nat → Nat} {u cells slots : Nat} {H : Heap} {locs : List Loc} {ls : Array Slot} {ws : va_W} {Q : State → Prop}
    (hFx : CallFix p m c code 4 s #[Value.ref b] wsL_law RL) (hX : va_X b Ls xs s s.heap) (hbl : b < s.heap.size) (hu : u + 5 ≤ Ls) (hLs : Ls ≤ 2560) (hcl : cells + 2 ≤ 600000) (hsl : slots + 1537 ≤ 7302250) (hK : zq_K D cI cZ cW cC s) (hJ : zJ cI cZ cW cC aX aM ws) (hP : va_P D vwCl ws H) (hD : va_D (fun q : Nat => s.heap.size ≤ q) ws) (hS : va_S (fun q : Nat => s.heap.size ≤ q) s.heap H locs) (hl : lv_has ls 4 [(0, .ref b), (1, .ref (aX 0)), (2, .ref (aM 0)), (3, .int (nI u))])
    (kk : ∀ (ws : va_W) (H : Heap) (locs : List Loc), zJ cI cZ cW cC aX aM ws → va_P D vwCl ws H → va_D (fun q : Nat => s.heap.size ≤ q) ws → va_S (fun q : Nat => s.heap.size ≤ q) s.heap H locs → W p l e room_1 s m #[Value.ref b] below meth c H locs (cells + 2) (slots + 1537) Q (F0 m 573 ls [])) :
    W p l e room_1 s m #[Value.ref b] below meth c H locs cells slots Q (F0 m 164 ls []) := by
  obtain ⟨hx, hb, hml, hown, hts⟩ := hFx
  obtain ⟨st, ln, N, L, k, n, sn, gv, oF, kF, fF, sF, bF, mF, hF, m1, m2, fs, fc, hm, PL, pf, wo, go, co, fo, bo, Gs, rfl, HJ⟩ := hJ
  obtain ⟨⟨hk, hn, hsn⟩, HL, HV, hOK, hGt, HW, HC, HH, hGs, hm0⟩ := id HJ
  have hA : ∀ q : Nat, s.heap.size ≤ q → (fun q : Nat => s.heap.size ≤ q) q := fun _ h => h
  have hbA : ¬ (fun q : Nat => s.heap.size ≤ q) b := Nat.not_le.mpr hbl
  have hfo : ∀ i, i < n → fo i < 6 := fun i hi => (HH i hi).2.1
  have hk8 : ∀ i, i < n → zr 8 (kF i) := fun i hi => (HH i hi).2.2.1
  have h5 : ∀ i, i < n → kF i = 5 → zr 256 (fF i) := fun i hi => (HH i hi).2.2.2.2.1
  have hbk : ∀ i, i < n → bo i ≤ k := fun i hi => (HH i hi).2.2.2.2.2.2.2
  refine lv_aload_n hx hb dL_law_164 rfl (lv_at hl 1 rfl) ?_
  refine lv_aload_n hx hb dL_law_165 rfl (lv_at hl 0 rfl) ?_
  refine lv_iload_n hx hb dL_law_166 rfl (lv_at hl 3 rfl) ?_
  refine lv_iconst (v := (nI 1)) hx hb dL_law_167 (by decide) ?_
  refine lv_iadd hx hb dL_law_168 ?_
  refine zq_te (y := (nI (u + 1))) (nI_add _ _) ?_
  refine zq_sld hx hb hX hbl hbA hS (u + 1) (by omega) hLs dL_law_169 ?_
  refine lv_aload_n hx hb dL_law_170 rfl (lv_at hl 0 rfl) ?_
  refine lv_iload_n hx hb dL_law_171 rfl (lv_at hl 3 rfl) ?_
  refine lv_iconst (v := (nI 2)) hx hb dL_law_172 (by decide) ?_
  refine lv_iadd hx hb dL_law_173 ?_
  refine zq_te (y := (nI (u + 2))) (nI_add _ _) ?_
  refine zq_sld hx hb hX hbl hbA hS (u + 2) (by omega) hLs dL_law_174 ?_
  refine lv_aload_n hx hb dL_law_175 rfl (lv_at hl 0 rfl) ?_
  refine lv_iload_n hx hb dL_law_176 rfl (lv_at hl 3 rfl) ?_
  refine lv_iconst (v := (nI 3)) hx hb dL_law_177 (by decide) ?_
  refine lv_iadd hx hb dL_law_178 ?_
  refine zq_te (y := (nI (u + 3))) (nI_add _ _) ?_
  refine zq_sld hx hb hX hbl hbA hS (u + 3) (by omega) hLs dL_law_179 ?_
  refine zq_cZ (rest := []) ⟨hx, hb, hml, hown, hts⟩ (c_X3_change l D cI cZ cW cC aX st ln N fs fc hm (nI sn) (nI k) (nI n) PL pf sn hsn rfl L HL HV (xs (u + 1)) (xs (u + 2)) (xs (u + 3)) _) (cwV 3 hts gL_law_X3_change rfl rfl rfl (by decide +kernel) ⟨Nat.le_of_ble_eq_true rfl, Nat.le_of_ble_eq_true rfl⟩) hK hP hD hS hA 3 0 rfl rfl rfl hl.1 rfl (Nat.le_of_ble_eq_true rfl) dL_law_180 ⟨by show _ ≤ 600000; omega, by show _ ≤ 7302250; omega⟩ (fun v w1 H locs hv hP hD hS => ?_)
  rcases hv with ⟨f, kx, hf, hkx, efx, ekx, hcan, rfl, rfl⟩ | ⟨hyf, rfl, rfl⟩
  · refine W.eq (g2 := F0 m 183 ls [.int 1]) rfl ?_
    refine lv_aload_n hx hb dL_law_183 rfl (lv_at hl 2 rfl) ?_
    refine lv_aload_n hx hb dL_law_184 rfl (lv_at hl 0 rfl) ?_
    refine lv_iload_n hx hb dL_law_185 rfl (lv_at hl 3 rfl) ?_
    refine lv_iconst (v := (nI 1)) hx hb dL_law_186 (by decide) ?_
    refine lv_iadd hx hb dL_law_187 ?_
    refine zq_te (y := (nI (u + 1))) (nI_add _ _) ?_
    refine zq_sld hx hb hX hbl hbA hS (u + 1) (by omega) hLs dL_law_188 ?_
    refine lv_aload_n hx hb dL_law_189 rfl (lv_at hl 0 rfl) ?_
    refine lv_iload_n hx hb dL_law_190 rfl (lv_at hl 3 rfl) ?_
    refine lv_iconst (v := (nI 2)) hx hb dL_law_191 (by decide) ?_
    refine lv_iadd hx hb dL_law_192 ?_
    refine zq_te (y := (nI (u + 2))) (nI_add _ _) ?_
    refine zq_sld hx hb hX hbl hbA hS (u + 2) (by omega) hLs dL_law_193 ?_
    refine lv_aload_n hx hb dL_law_194 rfl (lv_at hl 0 rfl) ?_
    refine lv_iload_n hx hb dL_law_195 rfl (lv_at hl 3 rfl) ?_
    refine lv_iconst (v := (nI 3)) hx hb dL_law_196 (by decide) ?_
    refine lv_iadd hx hb dL_law_197 ?_
    refine zq_te (y := (nI (u + 3))) (nI_add _ _) ?_
    refine zq_sld hx hb hX hbl hbA hS (u + 3) (by omega) hLs dL_law_198 ?_
    have hP := zP_flip hP
    have hD := zD_flip hD
    refine zq_cZ (rest := [.int 1]) ⟨hx, hb, hml, hown, hts⟩ (c_X4_change l D cI cZ cW cC aM ln st gv oF kF fF sF bF mF hF (nI k) (nI n) m1 m2 L HL HV (xs (u + 1)) (xs (u + 2)) (xs (u + 3)) _) (cwV 3 hts gL_law_X4_change rfl rfl rfl (by decide +kernel) ⟨Nat.le_of_ble_eq_true rfl, Nat.le_of_ble_eq_true rfl⟩) hK hP hD hS hA 4 0 rfl rfl rfl hl.1 rfl (Nat.le_of_ble_eq_true rfl) dL_law_199 ⟨by show _ ≤ 600000; omega, by show _ ≤ 7302250; omega⟩ (fun v w1 H locs hv hP hD hS => ?_)
    rcases hv with ⟨f2, kx2, hf2, hkx2, efx2, ekx2, hcan2, rfl, g2, rfl, hg2, hO2⟩ | ⟨hyf2, rfl, rfl⟩
    · have hP := zP_flip hP
      have hD := zD_flip hD
      have e2 := zeq (efx.symm.trans efx2)
      subst e2
      have hL9 := (HL f hf).2
      have e3 := zeq (ekx.symm.trans ekx2)
      subst e3
      refine W.eq (g2 := F0 m 202 ls [.int 1, .int 1]) rfl ?_
      refine lv_icmp_eq (tgt := 573) hx hb dL_law_202 (by decide) (fun _ => ?_) (fun hne => absurd rfl hne)
      refine W.widen (k := cells + 2) (n := slots + 1537) (by omega) (by omega) ?_
      exact kk _ _ _ (zJ_mk (zJ_change HJ hf hkx hcan hg2 hO2)) hP hD hS
    · exact absurd (hyf2 ⟨f, kx, hf, hkx, efx, ekx, hcan⟩) id
  · refine W.eq (g2 := F0 m 183 ls [.int 0]) rfl ?_
    refine lv_aload_n hx hb dL_law_183 rfl (lv_at hl 2 rfl) ?_
    refine lv_aload_n hx hb dL_law_184 rfl (lv_at hl 0 rfl) ?_
    refine lv_iload_n hx hb dL_law_185 rfl (lv_at hl 3 rfl) ?_
    refine lv_iconst (v := (nI 1)) hx hb dL_law_186 (by decide) ?_
    refine lv_iadd hx hb dL_law_187 ?_
    refine zq_te (y := (nI (u + 1))) (nI_add _ _) ?_
    refine zq_sld hx hb hX hbl hbA hS (u + 1) (by omega) hLs dL_law_188 ?_
    refine lv_aload_n hx hb dL_law_189 rfl (lv_at hl 0 rfl) ?_
    refine lv_iload_n hx hb dL_law_190 rfl (lv_at hl 3 rfl) ?_
    refine lv_iconst (v := (nI 2)) hx hb dL_law_191 (by decide) ?_
    refine lv_iadd hx hb dL_law_192 ?_
    refine zq_te (y := (nI (u + 2))) (nI_add _ _) ?_
    refine zq_sld hx hb hX hbl hbA hS (u + 2) (by omega) hLs dL_law_193 ?_
    refine lv_aload_n hx hb dL_law_194 rfl (lv_at hl 0 rfl) ?_
    refine lv_iload_n hx hb dL_law_195 rfl (lv_at hl 3 rfl) ?_
    refine lv_iconst (v := (nI 3)) hx hb dL_law_196 (by decide) ?_
    refine lv_iadd hx hb dL_law_197 ?_
    refine zq_te (y := (nI (u + 3))) (nI_add _ _) ?_
    refine zq_sld hx hb hX hbl hbA hS (u + 3) (by omega) hLs dL_law_198 ?_
    have hP := zP_flip hP
    have hD := zD_flip hD
    refine zq_cZ (rest := [.int 0]) ⟨hx, hb, hml, hown, hts⟩ (c_X4_change l D cI cZ cW cC aM ln st gv oF kF fF sF bF mF hF (nI k) (nI n) m1 m2 L HL HV (xs (u + 1)) (xs (u + 2)) (xs (u + 3)) _) (cwV 3 hts gL_law_X4_change rfl rfl rfl (by decide +kernel) ⟨Nat.le_of_ble_eq_true rfl, Nat.le_of_ble_eq_true rfl⟩) hK hP hD hS hA 4 0 rfl rfl rfl hl.1 rfl (Nat.le_of_ble_eq_true rfl) dL_law_199 ⟨by show _ ≤ 600000; omega, by show _ ≤ 7302250; omega⟩ (fun v w1 H locs hv hP hD hS => ?_)
    rcases hv with ⟨f2, kx2, hf2, hkx2, efx2, ekx2, hcan2, rfl, g2, rfl, hg2, hO2⟩ | ⟨hyf2, rfl, rfl⟩
    · exact absurd (hyf ⟨f2, kx2, hf2, hkx2, efx2, ekx2, hcan2⟩) id
    · have hP := zP_flip hP
      have hD := zD_flip hD
      refine W.eq (g2 := F0 m 202 ls [.int 0, .int 0]) rfl ?_
      refine lv_icmp_eq (tgt := 573) hx hb dL_law_202 (by decide) (fun _ => ?_) (fun hne => absurd rfl hne)
      refine W.widen (k := cells + 2) (n := slots + 1537) (by omega) (by omega) ?_
      exact kk _ _ _ (zJ_mk HJ) hP hD hS
set_option maxHeartbeats 4000000 in
set_option maxRecDepth 100000 in
theorem lk_3 {p : Program} {l : Launch} {e : Env} {s : State} {m : MethodId} {below : List Frame} {meth : Method} {c : Code} {D : va_G} {cI cZ cW cC : ClassId} {b Ls : Nat} {xs : Nat → Int32} {aX aM : Nat → Nat} {u cells slots : Nat} {H : Heap} {locs : List Loc} {ls : Array Slot} {ws : va_W} {Q : State → Prop}
    (hFx : CallFix p m c code 4 s #[Value.ref b] wsL_law RL) (hX : va_X b Ls xs s s.heap) (hbl : b < s.heap.size) (hu : u + 5 ≤ Ls) (hLs : Ls ≤ 2560) (hcl : cells + 2 ≤ 600000) (hsl : slots + 1537 ≤ 7302250) (hK : zq_K D cI cZ cW cC s) (hJ : zJ cI cZ cW cC aX aM ws) (hP : va_P D vwCl ws H) (hD : va_D (fun q : Nat => s.heap.size ≤ q) ws) (hS : va_S (fun q : Nat => s.heap.size ≤ q) s.heap H locs) (hl : lv_has ls 4 [(0, .ref b), (1, .ref (aX 0)), (2, .ref (aM 0)), (3, .int (nI u))])
    (kk : ∀ (ws : va_W) (H : Heap) (locs : List Loc), zJ cI cZ cW cC aX aM ws → va_P D vwCl ws H → va_D (fun q : Nat => s.heap.size ≤ q) ws → va_S (fun q : Nat => s.heap.size ≤ q) s.heap H locs → W p l e room_1 s m #[Value.ref b] below meth c H locs (cells + 2) (slots + 1537) Q (F0 m 573 ls [])) :
    W p l e room_1 s m #[Value.ref b] below meth c H locs cells slots Q (F0 m 207 ls []) := by
  obtain ⟨hx, hb, hml, hown, hts⟩ := hFx
  obtain ⟨st, ln, N, L, k, n, sn, gv, oF, kF, fF, sF, bF, mF, hF, m1, m2, fs, fc, hm, PL, pf, wo, go, co, fo, bo, Gs, rfl, HJ⟩ := hJ
  obtain ⟨⟨hk, hn, hsn⟩, HL, HV, hOK, hGt, HW, HC, HH, hGs, hm0⟩ := id HJ
  have hA : ∀ q : Nat, s.heap.size ≤ q → (fun q : Nat => s.heap.size ≤ q) q := fun _ h => h
  have hbA : ¬ (fun q : Nat => s.heap.size ≤ q) b := Nat.not_le.mpr hbl
  have hfo : ∀ i, i < n → fo i < 6 := fun i hi => (HH i hi).2.1
  have hk8 : ∀ i, i < n → zr 8 (kF i) := fun i hi => (HH i hi).2.2.1
  have h5 : ∀ i, i < n → kF i = 5 → zr 256 (fF i) := fun i hi => (HH i hi).2.2.2.2.1
  have hbk : ∀ i, i < n → bo i ≤ k := fun i hi => (HH i hi).2.2.2.2.2.2.2
  refine lv_aload_n hx hb dL_law_207 rfl (lv_at hl 1 rfl) ?_
  refine lv_aload_n hx hb dL_law_208 rfl (lv_at hl 0 rfl) ?_
  refine lv_iload_n hx hb dL_law_209 rfl (lv_at hl 3 rfl) ?_
  refine lv_iconst (v := (nI 1)) hx hb dL_law_210 (by decide) ?_
  refine lv_iadd hx hb dL_law_211 ?_
  refine zq_te (y := (nI (u + 1))) (nI_add _ _) ?_
  refine zq_sld hx hb hX hbl hbA hS (u + 1) (by omega) hLs dL_law_212 ?_
  refine lv_aload_n hx hb dL_law_213 rfl (lv_at hl 0 rfl) ?_
  refine lv_iload_n hx hb dL_law_214 rfl (lv_at hl 3 rfl) ?_
  refine lv_iconst (v := (nI 2)) hx hb dL_law_215 (by decide) ?_
  refine lv_iadd hx hb dL_law_216 ?_
  refine zq_te (y := (nI (u + 2))) (nI_add _ _) ?_
  refine zq_sld hx hb hX hbl hbA hS (u + 2) (by omega) hLs dL_law_217 ?_
  refine lv_aload_n hx hb dL_law_218 rfl (lv_at hl 0 rfl) ?_
  refine lv_iload_n hx hb dL_law_219 rfl (lv_at hl 3 rfl) ?_
  refine lv_iconst (v := (nI 3)) hx hb dL_law_220 (by decide) ?_
  refine lv_iadd hx hb dL_law_221 ?_
  refine zq_te (y := (nI (u + 3))) (nI_add _ _) ?_
  refine zq_sld hx hb hX hbl hbA hS (u + 3) (by omega) hLs dL_law_222 ?_
  refine zq_cZ (rest := []) ⟨hx, hb, hml, hown, hts⟩ (c_X3_run l D cI cZ cW cC aX st ln N fs fc hm (nI sn) (nI k) (nI n) PL pf sn hsn rfl L HL HV hOK (zG gv 31) hGt (xs (u + 1)) (xs (u + 2)) (xs (u + 3)) _) (cwV 3 hts gL_law_X3_run rfl rfl rfl (by decide +kernel) ⟨Nat.le_of_ble_eq_true rfl, Nat.le_of_ble_eq_true rfl⟩) hK hP hD hS hA 3 0 rfl rfl rfl hl.1 rfl (Nat.le_of_ble_eq_true rfl) dL_law_223 ⟨by show _ ≤ 600000; omega, by show _ ≤ 7302250; omega⟩ (fun v w1 H locs hv hP hD hS => ?_)
  rcases hv with ⟨rfl, N3, sn3, rfl, hs3, hO3⟩
  · refine W.eq (g2 := F0 m 226 ls [.int (zrun (zG gv 31) (xs (u + 1)) (xs (u + 2)) (xs (u + 3)))]) rfl ?_
    refine lv_aload_n hx hb dL_law_226 rfl (lv_at hl 2 rfl) ?_
    refine lv_aload_n hx hb dL_law_227 rfl (lv_at hl 0 rfl) ?_
    refine lv_iload_n hx hb dL_law_228 rfl (lv_at hl 3 rfl) ?_
    refine lv_iconst (v := (nI 1)) hx hb dL_law_229 (by decide) ?_
    refine lv_iadd hx hb dL_law_230 ?_
    refine zq_te (y := (nI (u + 1))) (nI_add _ _) ?_
    refine zq_sld hx hb hX hbl hbA hS (u + 1) (by omega) hLs dL_law_231 ?_
    refine lv_aload_n hx hb dL_law_232 rfl (lv_at hl 0 rfl) ?_
    refine lv_iload_n hx hb dL_law_233 rfl (lv_at hl 3 rfl) ?_
    refine lv_iconst (v := (nI 2)) hx hb dL_law_234 (by decide) ?_
    refine lv_iadd hx hb dL_law_235 ?_
    refine zq_te (y := (nI (u + 2))) (nI_add _ _) ?_
    refine zq_sld hx hb hX hbl hbA hS (u + 2) (by omega) hLs dL_law_236 ?_
    refine lv_aload_n hx hb dL_law_237 rfl (lv_at hl 0 rfl) ?_
    refine lv_iload_n hx hb dL_law_238 rfl (lv_at hl 3 rfl) ?_
    refine lv_iconst (v := (nI 3)) hx hb dL_law_239 (by decide) ?_
    refine lv_iadd hx hb dL_law_240 ?_
    refine zq_te (y := (nI (u + 3))) (nI_add _ _) ?_
    refine zq_sld hx hb hX hbl hbA hS (u + 3) (by omega) hLs dL_law_241 ?_
    refine zq_cV (rest := [.int (zrun (zG gv 31) (xs (u + 1)) (xs (u + 2)) (xs (u + 3)))]) ⟨hx, hb, hml, hown, hts⟩ (c_X4_run l D cI cZ cW cC aM ln st gv oF kF fF sF bF mF hF (nI k) (nI n) m1 m2 (xs (u + 1)) (xs (u + 2)) (xs (u + 3))) (cwV 3 hts gL_law_X4_run rfl rfl rfl (by decide +kernel) ⟨Nat.le_of_ble_eq_true rfl, Nat.le_of_ble_eq_true rfl⟩) hK (zP_fst (zP_flip hP)) 4 0 rfl rfl rfl hl.1 rfl (Nat.le_of_ble_eq_true rfl) dL_law_242 ⟨by show _ ≤ 600000; omega, by show _ ≤ 7302250; omega⟩ (fun v hv => ?_)
    rcases hv with rfl
    · refine W.eq (g2 := F0 m 245 ls [.int (zrun (zG gv 31) (xs (u + 1)) (xs (u + 2)) (xs (u + 3))), .int (zrun (zG gv 31) (xs (u + 1)) (xs (u + 2)) (xs (u + 3)))]) rfl ?_
      refine lv_icmp_eq (tgt := 573) hx hb dL_law_245 (by decide) (fun _ => ?_) (fun hne => absurd rfl hne)
      refine W.widen (k := cells + 2) (n := slots + 1537) (by omega) (by omega) ?_
      exact kk _ _ _ (zJ_mk (zJ_now HJ hs3 hO3)) hP hD hS
set_option maxHeartbeats 4000000 in
set_option maxRecDepth 100000 in
theorem lk_4 {p : Program} {l : Launch} {e : Env} {s : State} {m : MethodId} {below : List Frame} {meth : Method} {c : Code} {D : va_G} {cI cZ cW cC : ClassId} {b Ls : Nat} {xs : Nat → Int32} {aX aM : Nat → Nat} {u cells slots : Nat} {H : Heap} {locs : List Loc} {ls : Array Slot} {ws : va_W} {Q : State → Prop}
    (hFx : CallFix p m c code 4 s #[Value.ref b] wsL_law RL) (hX : va_X b Ls xs s s.heap) (hbl : b < s.heap.size) (hu : u + 5 ≤ Ls) (hLs : Ls ≤ 2560) (hcl : cells + 2 ≤ 600000) (hsl : slots + 1537 ≤ 7302250) (hK : zq_K D cI cZ cW cC s) (hJ : zJ cI cZ cW cC aX aM ws) (hP : va_P D vwCl ws H) (hD : va_D (fun q : Nat => s.heap.size ≤ q) ws) (hS : va_S (fun q : Nat => s.heap.size ≤ q) s.heap H locs) (hl : lv_has ls 4 [(0, .ref b), (1, .ref (aX 0)), (2, .ref (aM 0)), (3, .int (nI u))])
    (kk : ∀ (ws : va_W) (H : Heap) (locs : List Loc), zJ cI cZ cW cC aX aM ws → va_P D vwCl ws H → va_D (fun q : Nat => s.heap.size ≤ q) ws → va_S (fun q : Nat => s.heap.size ≤ q) s.heap H locs → W p l e room_1 s m #[Value.ref b] below meth c H locs (cells + 2) (slots + 1537) Q (F0 m 573 ls [])) :
    W p l e room_1 s m #[Value.ref b] below meth c H locs cells slots Q (F0 m 250 ls []) := by
  obtain ⟨hx, hb, hml, hown, hts⟩ := hFx
  obtain ⟨st, ln, N, L, k, n, sn, gv, oF, kF, fF, sF, bF, mF, hF, m1, m2, fs, fc, hm, PL, pf, wo, go, co, fo, bo, Gs, rfl, HJ⟩ := hJ
  obtain ⟨⟨hk, hn, hsn⟩, HL, HV, hOK, hGt, HW, HC, HH, hGs, hm0⟩ := id HJ
  have hA : ∀ q : Nat, s.heap.size ≤ q → (fun q : Nat => s.heap.size ≤ q) q := fun _ h => h
  have hbA : ¬ (fun q : Nat => s.heap.size ≤ q) b := Nat.not_le.mpr hbl
  have hfo : ∀ i, i < n → fo i < 6 := fun i hi => (HH i hi).2.1
  have hk8 : ∀ i, i < n → zr 8 (kF i) := fun i hi => (HH i hi).2.2.1
  have h5 : ∀ i, i < n → kF i = 5 → zr 256 (fF i) := fun i hi => (HH i hi).2.2.2.2.1
  have hbk : ∀ i, i < n → bo i ≤ k := fun i hi => (HH i hi).2.2.2.2.2.2.2
  refine lv_aload_n hx hb dL_law_250 rfl (lv_at hl 1 rfl) ?_
  refine zq_cZ (rest := []) ⟨hx, hb, hml, hown, hts⟩ (c_X3_keep l D cI cZ cW cC aX st ln N fs fc hm (nI sn) (nI k) (nI n) PL pf sn hsn rfl L HL HV hOK (zG gv 31) hGt k hk rfl wo go Gs HW n hn rfl co fo bo kF fF sF (zLK gv fo bo kF fF sF k) mF HC hfo _) (cwV 0 hts gL_law_X3_keep rfl rfl rfl (by decide +kernel) ⟨Nat.le_of_ble_eq_true rfl, Nat.le_of_ble_eq_true rfl⟩) hK hP hD hS hA 3 0 rfl rfl rfl hl.1 rfl (Nat.le_of_ble_eq_true rfl) dL_law_251 ⟨by show _ ≤ 600000; omega, by show _ ≤ 7302250; omega⟩ (fun v w1 H locs hv hP hD hS => ?_)
  rcases hv with ⟨hk30, rfl, N3, sn3, PL2, pf2, fs2, wo2, go2, Gs2, lh2, rfl, hs3, hO3, HW2, HC2, e1, e2, e3⟩ | ⟨ek30, rfl, rfl⟩
  · refine W.eq (g2 := F0 m 254 ls [.int (nI (k + 1))]) rfl ?_
    refine lv_aload_n hx hb dL_law_254 rfl (lv_at hl 2 rfl) ?_
    have hP := zP_flip hP
    have hD := zD_flip hD
    refine zq_cZ (rest := [.int (nI (k + 1))]) ⟨hx, hb, hml, hown, hts⟩ (c_X4_keep l D cI cZ cW cC aM ln st gv oF kF fF sF bF mF hF (nI k) (nI n) m1 m2 k hk rfl _) (cwV 0 hts gL_law_X4_keep rfl rfl rfl (by decide +kernel) ⟨Nat.le_of_ble_eq_true rfl, Nat.le_of_ble_eq_true rfl⟩) hK hP hD hS hA 4 0 rfl rfl rfl hl.1 rfl (Nat.le_of_ble_eq_true rfl) dL_law_255 ⟨by show _ ≤ 600000; omega, by show _ ≤ 7302250; omega⟩ (fun v w1 H locs hv hP hD hS => ?_)
    rcases hv with ⟨hk31, rfl, g2, rfl, hg1, hg3⟩ | ⟨ek31, rfl, rfl⟩
    · have hP := zP_flip hP
      have hD := zD_flip hD
      refine W.eq (g2 := F0 m 258 ls [.int (nI (k + 1)), .int (nI (k + 1))]) rfl ?_
      refine lv_icmp_eq (tgt := 573) hx hb dL_law_258 (by decide) (fun _ => ?_) (fun hne => absurd rfl hne)
      refine W.widen (k := cells + 2) (n := slots + 1537) (by omega) (by omega) ?_
      exact kk _ _ _ (zJ_mk (zJ_keep HJ hk30 hs3 hO3 HW2 HC2 e1 e2 e3 hg1 hg3)) hP hD hS
    · exact absurd ((by omega)) id
  · refine W.eq (g2 := F0 m 254 ls [.int (-1)]) rfl ?_
    refine lv_aload_n hx hb dL_law_254 rfl (lv_at hl 2 rfl) ?_
    have hP := zP_flip hP
    have hD := zD_flip hD
    refine zq_cZ (rest := [.int (-1)]) ⟨hx, hb, hml, hown, hts⟩ (c_X4_keep l D cI cZ cW cC aM ln st gv oF kF fF sF bF mF hF (nI k) (nI n) m1 m2 k hk rfl _) (cwV 0 hts gL_law_X4_keep rfl rfl rfl (by decide +kernel) ⟨Nat.le_of_ble_eq_true rfl, Nat.le_of_ble_eq_true rfl⟩) hK hP hD hS hA 4 0 rfl rfl rfl hl.1 rfl (Nat.le_of_ble_eq_true rfl) dL_law_255 ⟨by show _ ≤ 600000; omega, by show _ ≤ 7302250; omega⟩ (fun v w1 H locs hv hP hD hS => ?_)
    rcases hv with ⟨hk31, rfl, g2, rfl, hg1, hg3⟩ | ⟨ek31, rfl, rfl⟩
    · exact absurd ((by omega)) id
    · have hP := zP_flip hP
      have hD := zD_flip hD
      refine W.eq (g2 := F0 m 258 ls [.int (-1), .int (-1)]) rfl ?_
      refine lv_icmp_eq (tgt := 573) hx hb dL_law_258 (by decide) (fun _ => ?_) (fun hne => absurd rfl hne)
      refine W.widen (k := cells + 2) (n := slots + 1537) (by omega) (by omega) ?_
      exact kk _ _ _ (zJ_mk HJ) hP hD hS
set_option maxHeartbeats 4000000 in
set_option maxRecDepth 100000 in
theorem lk_5 {p : Program} {l : Launch} {e : Env} {s : State} {m : MethodId} {below : List Frame} {meth : Method} {c : Code} {D : va_G} {cI cZ cW cC : ClassId} {b Ls : Nat} {xs : Nat → Int32} {aX aM : Nat → Nat} {u cells slots : Nat} {H : Heap} {locs : List Loc} {ls : Array Slot} {ws : va_W} {Q : State → Prop}
    (hFx : CallFix p m c code 4 s #[Value.ref b] wsL_law RL) (hX : va_X b Ls xs s s.heap) (hbl : b < s.heap.size) (hu : u + 5 ≤ Ls) (hLs : Ls ≤ 2560) (hcl : cells + 2 ≤ 600000) (hsl : slots + 1537 ≤ 7302250) (hK : zq_K D cI cZ cW cC s) (hJ : zJ cI cZ cW cC aX aM ws) (hP : va_P D vwCl ws H) (hD : va_D (fun q : Nat => s.heap.size ≤ q) ws) (hS : va_S (fun q : Nat => s.heap.size ≤ q) s.heap H locs) (hl : lv_has ls 4 [(0, .ref b), (1, .ref (aX 0)), (2, .ref (aM 0)), (3, .int (nI u))])
    (kk : ∀ (ws : va_W) (H : Heap) (locs : List Loc), zJ cI cZ cW cC aX aM ws → va_P D vwCl ws H → va_D (fun q : Nat => s.heap.size ≤ q) ws → va_S (fun q : Nat => s.heap.size ≤ q) s.heap H locs → W p l e room_1 s m #[Value.ref b] below meth c H locs (cells + 2) (slots + 1537) Q (F0 m 573 ls [])) :
    W p l e room_1 s m #[Value.ref b] below meth c H locs cells slots Q (F0 m 263 ls []) := by
  obtain ⟨hx, hb, hml, hown, hts⟩ := hFx
  obtain ⟨st, ln, N, L, k, n, sn, gv, oF, kF, fF, sF, bF, mF, hF, m1, m2, fs, fc, hm, PL, pf, wo, go, co, fo, bo, Gs, rfl, HJ⟩ := hJ
  obtain ⟨⟨hk, hn, hsn⟩, HL, HV, hOK, hGt, HW, HC, HH, hGs, hm0⟩ := id HJ
  have hA : ∀ q : Nat, s.heap.size ≤ q → (fun q : Nat => s.heap.size ≤ q) q := fun _ h => h
  have hbA : ¬ (fun q : Nat => s.heap.size ≤ q) b := Nat.not_le.mpr hbl
  have hfo : ∀ i, i < n → fo i < 6 := fun i hi => (HH i hi).2.1
  have hk8 : ∀ i, i < n → zr 8 (kF i) := fun i hi => (HH i hi).2.2.1
  have h5 : ∀ i, i < n → kF i = 5 → zr 256 (fF i) := fun i hi => (HH i hi).2.2.2.2.1
  have hbk : ∀ i, i < n → bo i ≤ k := fun i hi => (HH i hi).2.2.2.2.2.2.2
  refine lv_aload_n hx hb dL_law_263 rfl (lv_at hl 1 rfl) ?_
  refine lv_aload_n hx hb dL_law_264 rfl (lv_at hl 0 rfl) ?_
  refine lv_iload_n hx hb dL_law_265 rfl (lv_at hl 3 rfl) ?_
  refine lv_iconst (v := (nI 1)) hx hb dL_law_266 (by decide) ?_
  refine lv_iadd hx hb dL_law_267 ?_
  refine zq_te (y := (nI (u + 1))) (nI_add _ _) ?_
  refine zq_sld hx hb hX hbl hbA hS (u + 1) (by omega) hLs dL_law_268 ?_
  refine lv_aload_n hx hb dL_law_269 rfl (lv_at hl 0 rfl) ?_
  refine lv_iload_n hx hb dL_law_270 rfl (lv_at hl 3 rfl) ?_
  refine lv_iconst (v := (nI 2)) hx hb dL_law_271 (by decide) ?_
  refine lv_iadd hx hb dL_law_272 ?_
  refine zq_te (y := (nI (u + 2))) (nI_add _ _) ?_
  refine zq_sld hx hb hX hbl hbA hS (u + 2) (by omega) hLs dL_law_273 ?_
  refine lv_aload_n hx hb dL_law_274 rfl (lv_at hl 0 rfl) ?_
  refine lv_iload_n hx hb dL_law_275 rfl (lv_at hl 3 rfl) ?_
  refine lv_iconst (v := (nI 3)) hx hb dL_law_276 (by decide) ?_
  refine lv_iadd hx hb dL_law_277 ?_
  refine zq_te (y := (nI (u + 3))) (nI_add _ _) ?_
  refine zq_sld hx hb hX hbl hbA hS (u + 3) (by omega) hLs dL_law_278 ?_
  refine lv_aload_n hx hb dL_law_279 rfl (lv_at hl 0 rfl) ?_
  refine lv_iload_n hx hb dL_law_280 rfl (lv_at hl 3 rfl) ?_
  refine lv_iconst (v := (nI 4)) hx hb dL_law_281 (by decide) ?_
  refine lv_iadd hx hb dL_law_282 ?_
  refine zq_te (y := (nI (u + 4))) (nI_add _ _) ?_
  refine zq_sld hx hb hX hbl hbA hS (u + 4) (by omega) hLs dL_law_283 ?_
  refine zq_cV (rest := []) ⟨hx, hb, hml, hown, hts⟩ (c_X3_was l D cI cZ cW cC aX st ln N fs fc hm (nI sn) (nI k) (nI n) PL pf k hk rfl wo go Gs HW (xs (u + 1)) (xs (u + 2)) (xs (u + 3)) (xs (u + 4))) (cwV 4 hts gL_law_X3_was rfl rfl rfl (by decide +kernel) ⟨Nat.le_of_ble_eq_true rfl, Nat.le_of_ble_eq_true rfl⟩) hK (zP_fst hP) 3 0 rfl rfl rfl hl.1 rfl (Nat.le_of_ble_eq_true rfl) dL_law_284 ⟨by show _ ≤ 600000; omega, by show _ ≤ 7302250; omega⟩ (fun v hv => ?_)
  rcases hv with rfl
  · refine W.eq (g2 := F0 m 287 ls [.int (zwas Gs k (xs (u + 1)) (xs (u + 2)) (xs (u + 3)) (xs (u + 4)))]) rfl ?_
    refine lv_aload_n hx hb dL_law_287 rfl (lv_at hl 2 rfl) ?_
    refine lv_aload_n hx hb dL_law_288 rfl (lv_at hl 0 rfl) ?_
    refine lv_iload_n hx hb dL_law_289 rfl (lv_at hl 3 rfl) ?_
    refine lv_iconst (v := (nI 1)) hx hb dL_law_290 (by decide) ?_
    refine lv_iadd hx hb dL_law_291 ?_
    refine zq_te (y := (nI (u + 1))) (nI_add _ _) ?_
    refine zq_sld hx hb hX hbl hbA hS (u + 1) (by omega) hLs dL_law_292 ?_
    refine lv_aload_n hx hb dL_law_293 rfl (lv_at hl 0 rfl) ?_
    refine lv_iload_n hx hb dL_law_294 rfl (lv_at hl 3 rfl) ?_
    refine lv_iconst (v := (nI 2)) hx hb dL_law_295 (by decide) ?_
    refine lv_iadd hx hb dL_law_296 ?_
    refine zq_te (y := (nI (u + 2))) (nI_add _ _) ?_
    refine zq_sld hx hb hX hbl hbA hS (u + 2) (by omega) hLs dL_law_297 ?_
    refine lv_aload_n hx hb dL_law_298 rfl (lv_at hl 0 rfl) ?_
    refine lv_iload_n hx hb dL_law_299 rfl (lv_at hl 3 rfl) ?_
    refine lv_iconst (v := (nI 3)) hx hb dL_law_300 (by decide) ?_
    refine lv_iadd hx hb dL_law_301 ?_
    refine zq_te (y := (nI (u + 3))) (nI_add _ _) ?_
    refine zq_sld hx hb hX hbl hbA hS (u + 3) (by omega) hLs dL_law_302 ?_
    refine lv_aload_n hx hb dL_law_303 rfl (lv_at hl 0 rfl) ?_
    refine lv_iload_n hx hb dL_law_304 rfl (lv_at hl 3 rfl) ?_
    refine lv_iconst (v := (nI 4)) hx hb dL_law_305 (by decide) ?_
    refine lv_iadd hx hb dL_law_306 ?_
    refine zq_te (y := (nI (u + 4))) (nI_add _ _) ?_
    refine zq_sld hx hb hX hbl hbA hS (u + 4) (by omega) hLs dL_law_307 ?_
    refine zq_cV (rest := [.int (zwas Gs k (xs (u + 1)) (xs (u + 2)) (xs (u + 3)) (xs (u + 4)))]) ⟨hx, hb, hml, hown, hts⟩ (c_X4_was l D cI cZ cW cC aM ln st gv oF kF fF sF bF mF hF (nI k) (nI n) m1 m2 k hk rfl (xs (u + 1)) (xs (u + 2)) (xs (u + 3)) (xs (u + 4))) (cwV 4 hts gL_law_X4_was rfl rfl rfl (by decide +kernel) ⟨Nat.le_of_ble_eq_true rfl, Nat.le_of_ble_eq_true rfl⟩) hK (zP_fst (zP_flip hP)) 4 0 rfl rfl rfl hl.1 rfl (Nat.le_of_ble_eq_true rfl) dL_law_308 ⟨by show _ ≤ 600000; omega, by show _ ≤ 7302250; omega⟩ (fun v hv => ?_)
    rcases hv with rfl
    · refine W.eq (g2 := F0 m 311 ls [.int (zwas (zG gv) k (xs (u + 1)) (xs (u + 2)) (xs (u + 3)) (xs (u + 4))), .int (zwas Gs k (xs (u + 1)) (xs (u + 2)) (xs (u + 3)) (xs (u + 4)))]) rfl ?_
      refine lv_icmp_eq (tgt := 573) hx hb dL_law_311 (by decide) (fun _ => ?_) (fun hne => absurd (zwas_cong hk hGs) hne)
      refine W.widen (k := cells + 2) (n := slots + 1537) (by omega) (by omega) ?_
      exact kk _ _ _ (zJ_mk HJ) hP hD hS
set_option maxHeartbeats 4000000 in
set_option maxRecDepth 100000 in
theorem lk_6 {p : Program} {l : Launch} {e : Env} {s : State} {m : MethodId} {below : List Frame} {meth : Method} {c : Code} {D : va_G} {cI cZ cW cC : ClassId} {b Ls : Nat} {xs : Nat → Int32} {aX aM : Nat → Nat} {u cells slots : Nat} {H : Heap} {locs : List Loc} {ls : Array Slot} {ws : va_W} {Q : State → Prop}
    (hFx : CallFix p m c code 4 s #[Value.ref b] wsL_law RL) (hX : va_X b Ls xs s s.heap) (hbl : b < s.heap.size) (hu : u + 5 ≤ Ls) (hLs : Ls ≤ 2560) (hcl : cells + 2 ≤ 600000) (hsl : slots + 1537 ≤ 7302250) (hK : zq_K D cI cZ cW cC s) (hJ : zJ cI cZ cW cC aX aM ws) (hP : va_P D vwCl ws H) (hD : va_D (fun q : Nat => s.heap.size ≤ q) ws) (hS : va_S (fun q : Nat => s.heap.size ≤ q) s.heap H locs) (hl : lv_has ls 4 [(0, .ref b), (1, .ref (aX 0)), (2, .ref (aM 0)), (3, .int (nI u))])
    (kk : ∀ (ws : va_W) (H : Heap) (locs : List Loc), zJ cI cZ cW cC aX aM ws → va_P D vwCl ws H → va_D (fun q : Nat => s.heap.size ≤ q) ws → va_S (fun q : Nat => s.heap.size ≤ q) s.heap H locs → W p l e room_1 s m #[Value.ref b] below meth c H locs (cells + 2) (slots + 1537) Q (F0 m 573 ls [])) :
    W p l e room_1 s m #[Value.ref b] below meth c H locs cells slots Q (F0 m 316 ls []) := by
  obtain ⟨hx, hb, hml, hown, hts⟩ := hFx
  obtain ⟨st, ln, N, L, k, n, sn, gv, oF, kF, fF, sF, bF, mF, hF, m1, m2, fs, fc, hm, PL, pf, wo, go, co, fo, bo, Gs, rfl, HJ⟩ := hJ
  obtain ⟨⟨hk, hn, hsn⟩, HL, HV, hOK, hGt, HW, HC, HH, hGs, hm0⟩ := id HJ
  have hA : ∀ q : Nat, s.heap.size ≤ q → (fun q : Nat => s.heap.size ≤ q) q := fun _ h => h
  have hbA : ¬ (fun q : Nat => s.heap.size ≤ q) b := Nat.not_le.mpr hbl
  have hfo : ∀ i, i < n → fo i < 6 := fun i hi => (HH i hi).2.1
  have hk8 : ∀ i, i < n → zr 8 (kF i) := fun i hi => (HH i hi).2.2.1
  have h5 : ∀ i, i < n → kF i = 5 → zr 256 (fF i) := fun i hi => (HH i hi).2.2.2.2.1
  have hbk : ∀ i, i < n → bo i ≤ k := fun i hi => (HH i hi).2.2.2.2.2.2.2
  refine lv_aload_n hx hb dL_law_316 rfl (lv_at hl 1 rfl) ?_
  refine lv_aload_n hx hb dL_law_317 rfl (lv_at hl 0 rfl) ?_
  refine lv_iload_n hx hb dL_law_318 rfl (lv_at hl 3 rfl) ?_
  refine lv_iconst (v := (nI 1)) hx hb dL_law_319 (by decide) ?_
  refine lv_iadd hx hb dL_law_320 ?_
  refine zq_te (y := (nI (u + 1))) (nI_add _ _) ?_
  refine zq_sld hx hb hX hbl hbA hS (u + 1) (by omega) hLs dL_law_321 ?_
  refine lv_aload_n hx hb dL_law_322 rfl (lv_at hl 0 rfl) ?_
  refine lv_iload_n hx hb dL_law_323 rfl (lv_at hl 3 rfl) ?_
  refine lv_iconst (v := (nI 2)) hx hb dL_law_324 (by decide) ?_
  refine lv_iadd hx hb dL_law_325 ?_
  refine zq_te (y := (nI (u + 2))) (nI_add _ _) ?_
  refine zq_sld hx hb hX hbl hbA hS (u + 2) (by omega) hLs dL_law_326 ?_
  refine lv_aload_n hx hb dL_law_327 rfl (lv_at hl 0 rfl) ?_
  refine lv_iload_n hx hb dL_law_328 rfl (lv_at hl 3 rfl) ?_
  refine lv_iconst (v := (nI 3)) hx hb dL_law_329 (by decide) ?_
  refine lv_iadd hx hb dL_law_330 ?_
  refine zq_te (y := (nI (u + 3))) (nI_add _ _) ?_
  refine zq_sld hx hb hX hbl hbA hS (u + 3) (by omega) hLs dL_law_331 ?_
  refine lv_aload_n hx hb dL_law_332 rfl (lv_at hl 0 rfl) ?_
  refine lv_iload_n hx hb dL_law_333 rfl (lv_at hl 3 rfl) ?_
  refine lv_iconst (v := (nI 4)) hx hb dL_law_334 (by decide) ?_
  refine lv_iadd hx hb dL_law_335 ?_
  refine zq_te (y := (nI (u + 4))) (nI_add _ _) ?_
  refine zq_sld hx hb hX hbl hbA hS (u + 4) (by omega) hLs dL_law_336 ?_
  refine zq_cZ (rest := []) ⟨hx, hb, hml, hown, hts⟩ (c_X3_claim l D cI cZ cW cC aX st ln N fs fc hm (nI sn) (nI k) (nI n) PL pf k hk rfl wo go Gs HW n hn rfl co fo bo kF fF sF (zLK gv fo bo kF fF sF k) mF HC (xs (u + 1)) (xs (u + 2)) (xs (u + 3)) (xs (u + 4)) _) (cwV 4 hts gL_law_X3_claim rfl rfl rfl (by decide +kernel) ⟨Nat.le_of_ble_eq_true rfl, Nat.le_of_ble_eq_true rfl⟩) hK hP hD hS hA 3 0 rfl rfl rfl hl.1 rfl (Nat.le_of_ble_eq_true rfl) dL_law_337 ⟨by show _ ≤ 600000; omega, by show _ ≤ 7302250; omega⟩ (fun v w1 H locs hv hP hD hS => ?_)
  rcases hv with ⟨f, hf, efx, hcl2, hn40, rfl, PL2, pf2, ca, rfl, HW2, HC2⟩ | ⟨hno, rfl, rfl⟩
  · refine W.eq (g2 := F0 m 340 ls [.int (nI n)]) rfl ?_
    refine lv_aload_n hx hb dL_law_340 rfl (lv_at hl 2 rfl) ?_
    refine lv_aload_n hx hb dL_law_341 rfl (lv_at hl 0 rfl) ?_
    refine lv_iload_n hx hb dL_law_342 rfl (lv_at hl 3 rfl) ?_
    refine lv_iconst (v := (nI 1)) hx hb dL_law_343 (by decide) ?_
    refine lv_iadd hx hb dL_law_344 ?_
    refine zq_te (y := (nI (u + 1))) (nI_add _ _) ?_
    refine zq_sld hx hb hX hbl hbA hS (u + 1) (by omega) hLs dL_law_345 ?_
    refine lv_aload_n hx hb dL_law_346 rfl (lv_at hl 0 rfl) ?_
    refine lv_iload_n hx hb dL_law_347 rfl (lv_at hl 3 rfl) ?_
    refine lv_iconst (v := (nI 2)) hx hb dL_law_348 (by decide) ?_
    refine lv_iadd hx hb dL_law_349 ?_
    refine zq_te (y := (nI (u + 2))) (nI_add _ _) ?_
    refine zq_sld hx hb hX hbl hbA hS (u + 2) (by omega) hLs dL_law_350 ?_
    refine lv_aload_n hx hb dL_law_351 rfl (lv_at hl 0 rfl) ?_
    refine lv_iload_n hx hb dL_law_352 rfl (lv_at hl 3 rfl) ?_
    refine lv_iconst (v := (nI 3)) hx hb dL_law_353 (by decide) ?_
    refine lv_iadd hx hb dL_law_354 ?_
    refine zq_te (y := (nI (u + 3))) (nI_add _ _) ?_
    refine zq_sld hx hb hX hbl hbA hS (u + 3) (by omega) hLs dL_law_355 ?_
    refine lv_aload_n hx hb dL_law_356 rfl (lv_at hl 0 rfl) ?_
    refine lv_iload_n hx hb dL_law_357 rfl (lv_at hl 3 rfl) ?_
    refine lv_iconst (v := (nI 4)) hx hb dL_law_358 (by decide) ?_
    refine lv_iadd hx hb dL_law_359 ?_
    refine zq_te (y := (nI (u + 4))) (nI_add _ _) ?_
    refine zq_sld hx hb hX hbl hbA hS (u + 4) (by omega) hLs dL_law_360 ?_
    have hP := zP_flip hP
    have hD := zD_flip hD
    refine zq_cZ (rest := [.int (nI n)]) ⟨hx, hb, hml, hown, hts⟩ (c_X4_claim l D cI cZ cW cC aM ln st gv oF kF fF sF bF mF hF (nI k) (nI n) m1 m2 n hn rfl (xs (u + 1)) (xs (u + 2)) (xs (u + 3)) (xs (u + 4)) _) (cwV 4 hts gL_law_X4_claim rfl rfl rfl (by decide +kernel) ⟨Nat.le_of_ble_eq_true rfl, Nat.le_of_ble_eq_true rfl⟩) hK hP hD hS hA 4 0 rfl rfl rfl hl.1 rfl (Nat.le_of_ble_eq_true rfl) dL_law_361 ⟨by show _ ≤ 600000; omega, by show _ ≤ 7302250; omega⟩ (fun v w1 H locs hv hP hD hS => ?_)
    rcases hv with ⟨hy, rfl, rfl⟩ | ⟨hno2, rfl, rfl⟩
    · have hP := zP_flip hP
      have hD := zD_flip hD
      rw [efx] at hP hD
      refine W.eq (g2 := F0 m 364 ls [.int (nI n), .int (nI n)]) rfl ?_
      refine lv_icmp_eq (tgt := 573) hx hb dL_law_364 (by decide) (fun _ => ?_) (fun hne => absurd rfl hne)
      refine W.widen (k := cells + 2) (n := slots + 1537) (by omega) (by omega) ?_
      exact kk _ _ _ (zJ_mk (zJ_claim HJ hf hcl2 hn40 HW2 HC2)) hP hD hS
    · exact absurd (hno2 ⟨⟨f, hf, efx⟩, hcl2, hn40⟩) id
  · refine W.eq (g2 := F0 m 340 ls [.int (-1)]) rfl ?_
    refine lv_aload_n hx hb dL_law_340 rfl (lv_at hl 2 rfl) ?_
    refine lv_aload_n hx hb dL_law_341 rfl (lv_at hl 0 rfl) ?_
    refine lv_iload_n hx hb dL_law_342 rfl (lv_at hl 3 rfl) ?_
    refine lv_iconst (v := (nI 1)) hx hb dL_law_343 (by decide) ?_
    refine lv_iadd hx hb dL_law_344 ?_
    refine zq_te (y := (nI (u + 1))) (nI_add _ _) ?_
    refine zq_sld hx hb hX hbl hbA hS (u + 1) (by omega) hLs dL_law_345 ?_
    refine lv_aload_n hx hb dL_law_346 rfl (lv_at hl 0 rfl) ?_
    refine lv_iload_n hx hb dL_law_347 rfl (lv_at hl 3 rfl) ?_
    refine lv_iconst (v := (nI 2)) hx hb dL_law_348 (by decide) ?_
    refine lv_iadd hx hb dL_law_349 ?_
    refine zq_te (y := (nI (u + 2))) (nI_add _ _) ?_
    refine zq_sld hx hb hX hbl hbA hS (u + 2) (by omega) hLs dL_law_350 ?_
    refine lv_aload_n hx hb dL_law_351 rfl (lv_at hl 0 rfl) ?_
    refine lv_iload_n hx hb dL_law_352 rfl (lv_at hl 3 rfl) ?_
    refine lv_iconst (v := (nI 3)) hx hb dL_law_353 (by decide) ?_
    refine lv_iadd hx hb dL_law_354 ?_
    refine zq_te (y := (nI (u + 3))) (nI_add _ _) ?_
    refine zq_sld hx hb hX hbl hbA hS (u + 3) (by omega) hLs dL_law_355 ?_
    refine lv_aload_n hx hb dL_law_356 rfl (lv_at hl 0 rfl) ?_
    refine lv_iload_n hx hb dL_law_357 rfl (lv_at hl 3 rfl) ?_
    refine lv_iconst (v := (nI 4)) hx hb dL_law_358 (by decide) ?_
    refine lv_iadd hx hb dL_law_359 ?_
    refine zq_te (y := (nI (u + 4))) (nI_add _ _) ?_
    refine zq_sld hx hb hX hbl hbA hS (u + 4) (by omega) hLs dL_law_360 ?_
    have hP := zP_flip hP
    have hD := zD_flip hD
    refine zq_cZ (rest := [.int (-1)]) ⟨hx, hb, hml, hown, hts⟩ (c_X4_claim l D cI cZ cW cC aM ln st gv oF kF fF sF bF mF hF (nI k) (nI n) m1 m2 n hn rfl (xs (u + 1)) (xs (u + 2)) (xs (u + 3)) (xs (u + 4)) _) (cwV 4 hts gL_law_X4_claim rfl rfl rfl (by decide +kernel) ⟨Nat.le_of_ble_eq_true rfl, Nat.le_of_ble_eq_true rfl⟩) hK hP hD hS hA 4 0 rfl rfl rfl hl.1 rfl (Nat.le_of_ble_eq_true rfl) dL_law_361 ⟨by show _ ≤ 600000; omega, by show _ ≤ 7302250; omega⟩ (fun v w1 H locs hv hP hD hS => ?_)
    rcases hv with ⟨hy, rfl, rfl⟩ | ⟨hno2, rfl, rfl⟩
    · exact absurd (hno hy) id
    · have hP := zP_flip hP
      have hD := zD_flip hD
      refine W.eq (g2 := F0 m 364 ls [.int (-1), .int (-1)]) rfl ?_
      refine lv_icmp_eq (tgt := 573) hx hb dL_law_364 (by decide) (fun _ => ?_) (fun hne => absurd rfl hne)
      refine W.widen (k := cells + 2) (n := slots + 1537) (by omega) (by omega) ?_
      exact kk _ _ _ (zJ_mk HJ) hP hD hS
set_option maxHeartbeats 4000000 in
set_option maxRecDepth 100000 in
theorem lk_7 {p : Program} {l : Launch} {e : Env} {s : State} {m : MethodId} {below : List Frame} {meth : Method} {c : Code} {D : va_G} {cI cZ cW cC : ClassId} {b Ls : Nat} {xs : Nat → Int32} {aX aM : Nat → Nat} {u cells slots : Nat} {H : Heap} {locs : List Loc} {ls : Array Slot} {ws : va_W} {Q : State → Prop}
    (hFx : CallFix p m c code 4 s #[Value.ref b] wsL_law RL) (hX : va_X b Ls xs s s.heap) (hbl : b < s.heap.size) (hu : u + 5 ≤ Ls) (hLs : Ls ≤ 2560) (hcl : cells + 2 ≤ 600000) (hsl : slots + 1537 ≤ 7302250) (hK : zq_K D cI cZ cW cC s) (hJ : zJ cI cZ cW cC aX aM ws) (hP : va_P D vwCl ws H) (hD : va_D (fun q : Nat => s.heap.size ≤ q) ws) (hS : va_S (fun q : Nat => s.heap.size ≤ q) s.heap H locs) (hl : lv_has ls 4 [(0, .ref b), (1, .ref (aX 0)), (2, .ref (aM 0)), (3, .int (nI u))])
    (kk : ∀ (ws : va_W) (H : Heap) (locs : List Loc), zJ cI cZ cW cC aX aM ws → va_P D vwCl ws H → va_D (fun q : Nat => s.heap.size ≤ q) ws → va_S (fun q : Nat => s.heap.size ≤ q) s.heap H locs → W p l e room_1 s m #[Value.ref b] below meth c H locs (cells + 2) (slots + 1537) Q (F0 m 573 ls [])) :
    W p l e room_1 s m #[Value.ref b] below meth c H locs cells slots Q (F0 m 369 ls []) := by
  obtain ⟨hx, hb, hml, hown, hts⟩ := hFx
  obtain ⟨st, ln, N, L, k, n, sn, gv, oF, kF, fF, sF, bF, mF, hF, m1, m2, fs, fc, hm, PL, pf, wo, go, co, fo, bo, Gs, rfl, HJ⟩ := hJ
  obtain ⟨⟨hk, hn, hsn⟩, HL, HV, hOK, hGt, HW, HC, HH, hGs, hm0⟩ := id HJ
  have hA : ∀ q : Nat, s.heap.size ≤ q → (fun q : Nat => s.heap.size ≤ q) q := fun _ h => h
  have hbA : ¬ (fun q : Nat => s.heap.size ≤ q) b := Nat.not_le.mpr hbl
  have hfo : ∀ i, i < n → fo i < 6 := fun i hi => (HH i hi).2.1
  have hk8 : ∀ i, i < n → zr 8 (kF i) := fun i hi => (HH i hi).2.2.1
  have h5 : ∀ i, i < n → kF i = 5 → zr 256 (fF i) := fun i hi => (HH i hi).2.2.2.2.1
  have hbk : ∀ i, i < n → bo i ≤ k := fun i hi => (HH i hi).2.2.2.2.2.2.2
  refine lv_aload_n hx hb dL_law_369 rfl (lv_at hl 1 rfl) ?_
  refine lv_aload_n hx hb dL_law_370 rfl (lv_at hl 0 rfl) ?_
  refine lv_iload_n hx hb dL_law_371 rfl (lv_at hl 3 rfl) ?_
  refine lv_iconst (v := (nI 1)) hx hb dL_law_372 (by decide) ?_
  refine lv_iadd hx hb dL_law_373 ?_
  refine zq_te (y := (nI (u + 1))) (nI_add _ _) ?_
  refine zq_sld hx hb hX hbl hbA hS (u + 1) (by omega) hLs dL_law_374 ?_
  refine lv_aload_n hx hb dL_law_375 rfl (lv_at hl 0 rfl) ?_
  refine lv_iload_n hx hb dL_law_376 rfl (lv_at hl 3 rfl) ?_
  refine lv_iconst (v := (nI 2)) hx hb dL_law_377 (by decide) ?_
  refine lv_iadd hx hb dL_law_378 ?_
  refine zq_te (y := (nI (u + 2))) (nI_add _ _) ?_
  refine zq_sld hx hb hX hbl hbA hS (u + 2) (by omega) hLs dL_law_379 ?_
  refine zq_cZ (rest := []) ⟨hx, hb, hml, hown, hts⟩ (c_X3_told l D cI cZ cW cC aX st ln N fs fc hm (nI sn) (nI k) (nI n) PL pf sn hsn rfl L HL HV hOK (zG gv 31) hGt n hn rfl co fo bo kF fF sF (zLK gv fo bo kF fF sF k) mF HC hfo (xs (u + 1)) (xs (u + 2)) _) (cwV 2 hts gL_law_X3_told rfl rfl rfl (by decide +kernel) ⟨Nat.le_of_ble_eq_true rfl, Nat.le_of_ble_eq_true rfl⟩) hK hP hD hS hA 3 0 rfl rfl rfl hl.1 rfl (Nat.le_of_ble_eq_true rfl) dL_law_380 ⟨by show _ ≤ 600000; omega, by show _ ≤ 7302250; omega⟩ (fun v w1 H locs hv hP hD hS => ?_)
  rcases hv with ⟨rfl, N3, sn3, rfl, hs3, hO3⟩
  · refine W.eq (g2 := F0 m 383 ls [.int _]) rfl ?_
    refine lv_aload_n hx hb dL_law_383 rfl (lv_at hl 2 rfl) ?_
    refine lv_aload_n hx hb dL_law_384 rfl (lv_at hl 0 rfl) ?_
    refine lv_iload_n hx hb dL_law_385 rfl (lv_at hl 3 rfl) ?_
    refine lv_iconst (v := (nI 1)) hx hb dL_law_386 (by decide) ?_
    refine lv_iadd hx hb dL_law_387 ?_
    refine zq_te (y := (nI (u + 1))) (nI_add _ _) ?_
    refine zq_sld hx hb hX hbl hbA hS (u + 1) (by omega) hLs dL_law_388 ?_
    refine lv_aload_n hx hb dL_law_389 rfl (lv_at hl 0 rfl) ?_
    refine lv_iload_n hx hb dL_law_390 rfl (lv_at hl 3 rfl) ?_
    refine lv_iconst (v := (nI 2)) hx hb dL_law_391 (by decide) ?_
    refine lv_iadd hx hb dL_law_392 ?_
    refine zq_te (y := (nI (u + 2))) (nI_add _ _) ?_
    refine zq_sld hx hb hX hbl hbA hS (u + 2) (by omega) hLs dL_law_393 ?_
    refine zq_cV (rest := [.int _]) ⟨hx, hb, hml, hown, hts⟩ (c_X4_told l D cI cZ cW cC aM ln st gv oF kF fF sF bF mF hF (nI k) (nI n) m1 m2 fo bo n k hn hk HH rfl rfl (xs (u + 1)) (xs (u + 2))) (cwV 2 hts gL_law_X4_told rfl rfl rfl (by decide +kernel) ⟨Nat.le_of_ble_eq_true rfl, Nat.le_of_ble_eq_true rfl⟩) hK (zP_fst (zP_flip hP)) 4 0 rfl rfl rfl hl.1 rfl (Nat.le_of_ble_eq_true rfl) dL_law_394 ⟨by show _ ≤ 600000; omega, by show _ ≤ 7302250; omega⟩ (fun v hv => ?_)
    rcases hv with rfl
    · refine W.eq (g2 := F0 m 397 ls [.int _, .int _]) rfl ?_
      refine lv_icmp_eq (tgt := 573) hx hb dL_law_397 (by decide) (fun _ => ?_) (fun hne => absurd rfl hne)
      refine W.widen (k := cells + 2) (n := slots + 1537) (by omega) (by omega) ?_
      exact kk _ _ _ (zJ_mk (zJ_now HJ hs3 hO3)) hP hD hS
set_option maxHeartbeats 4000000 in
set_option maxRecDepth 100000 in
theorem lk_8 {p : Program} {l : Launch} {e : Env} {s : State} {m : MethodId} {below : List Frame} {meth : Method} {c : Code} {D : va_G} {cI cZ cW cC : ClassId} {b Ls : Nat} {xs : Nat → Int32} {aX aM : Nat → Nat} {u cells slots : Nat} {H : Heap} {locs : List Loc} {ls : Array Slot} {ws : va_W} {Q : State → Prop}
    (hFx : CallFix p m c code 4 s #[Value.ref b] wsL_law RL) (hX : va_X b Ls xs s s.heap) (hbl : b < s.heap.size) (hu : u + 5 ≤ Ls) (hLs : Ls ≤ 2560) (hcl : cells + 2 ≤ 600000) (hsl : slots + 1537 ≤ 7302250) (hK : zq_K D cI cZ cW cC s) (hJ : zJ cI cZ cW cC aX aM ws) (hP : va_P D vwCl ws H) (hD : va_D (fun q : Nat => s.heap.size ≤ q) ws) (hS : va_S (fun q : Nat => s.heap.size ≤ q) s.heap H locs) (hl : lv_has ls 4 [(0, .ref b), (1, .ref (aX 0)), (2, .ref (aM 0)), (3, .int (nI u))])
    (kk : ∀ (ws : va_W) (H : Heap) (locs : List Loc), zJ cI cZ cW cC aX aM ws → va_P D vwCl ws H → va_D (fun q : Nat => s.heap.size ≤ q) ws → va_S (fun q : Nat => s.heap.size ≤ q) s.heap H locs → W p l e room_1 s m #[Value.ref b] below meth c H locs (cells + 2) (slots + 1537) Q (F0 m 573 ls [])) :
    W p l e room_1 s m #[Value.ref b] below meth c H locs cells slots Q (F0 m 402 ls []) := by
  obtain ⟨hx, hb, hml, hown, hts⟩ := hFx
  obtain ⟨st, ln, N, L, k, n, sn, gv, oF, kF, fF, sF, bF, mF, hF, m1, m2, fs, fc, hm, PL, pf, wo, go, co, fo, bo, Gs, rfl, HJ⟩ := hJ
  obtain ⟨⟨hk, hn, hsn⟩, HL, HV, hOK, hGt, HW, HC, HH, hGs, hm0⟩ := id HJ
  have hA : ∀ q : Nat, s.heap.size ≤ q → (fun q : Nat => s.heap.size ≤ q) q := fun _ h => h
  have hbA : ¬ (fun q : Nat => s.heap.size ≤ q) b := Nat.not_le.mpr hbl
  have hfo : ∀ i, i < n → fo i < 6 := fun i hi => (HH i hi).2.1
  have hk8 : ∀ i, i < n → zr 8 (kF i) := fun i hi => (HH i hi).2.2.1
  have h5 : ∀ i, i < n → kF i = 5 → zr 256 (fF i) := fun i hi => (HH i hi).2.2.2.2.1
  have hbk : ∀ i, i < n → bo i ≤ k := fun i hi => (HH i hi).2.2.2.2.2.2.2
  refine lv_aload_n hx hb dL_law_402 rfl (lv_at hl 1 rfl) ?_
  refine lv_aload_n hx hb dL_law_403 rfl (lv_at hl 0 rfl) ?_
  refine lv_iload_n hx hb dL_law_404 rfl (lv_at hl 3 rfl) ?_
  refine lv_iconst (v := (nI 1)) hx hb dL_law_405 (by decide) ?_
  refine lv_iadd hx hb dL_law_406 ?_
  refine zq_te (y := (nI (u + 1))) (nI_add _ _) ?_
  refine zq_sld hx hb hX hbl hbA hS (u + 1) (by omega) hLs dL_law_407 ?_
  refine zq_cZ (rest := []) ⟨hx, hb, hml, hown, hts⟩ (c_X3_denied l D cI cZ cW cC aX st ln N fs fc hm (nI sn) (nI k) (nI n) PL pf sn hsn rfl L HL HV hOK (zG gv 31) hGt n hn rfl co fo bo kF fF sF (zLK gv fo bo kF fF sF k) mF HC hfo (xs (u + 1)) _) (cwV 1 hts gL_law_X3_denied rfl rfl rfl (by decide +kernel) ⟨Nat.le_of_ble_eq_true rfl, Nat.le_of_ble_eq_true rfl⟩) hK hP hD hS hA 3 0 rfl rfl rfl hl.1 rfl (Nat.le_of_ble_eq_true rfl) dL_law_408 ⟨by show _ ≤ 600000; omega, by show _ ≤ 7302250; omega⟩ (fun v w1 H locs hv hP hD hS => ?_)
  rcases hv with ⟨rfl, N3, sn3, rfl, hs3, hO3⟩
  · refine W.eq (g2 := F0 m 411 ls [.int _]) rfl ?_
    refine lv_aload_n hx hb dL_law_411 rfl (lv_at hl 2 rfl) ?_
    refine lv_aload_n hx hb dL_law_412 rfl (lv_at hl 0 rfl) ?_
    refine lv_iload_n hx hb dL_law_413 rfl (lv_at hl 3 rfl) ?_
    refine lv_iconst (v := (nI 1)) hx hb dL_law_414 (by decide) ?_
    refine lv_iadd hx hb dL_law_415 ?_
    refine zq_te (y := (nI (u + 1))) (nI_add _ _) ?_
    refine zq_sld hx hb hX hbl hbA hS (u + 1) (by omega) hLs dL_law_416 ?_
    refine zq_cV (rest := [.int _]) ⟨hx, hb, hml, hown, hts⟩ (c_X4_denied l D cI cZ cW cC aM ln st gv oF kF fF sF bF mF hF (nI k) (nI n) m1 m2 fo bo n k hn hk HH rfl (xs (u + 1))) (cwV 1 hts gL_law_X4_denied rfl rfl rfl (by decide +kernel) ⟨Nat.le_of_ble_eq_true rfl, Nat.le_of_ble_eq_true rfl⟩) hK (zP_fst (zP_flip hP)) 4 0 rfl rfl rfl hl.1 rfl (Nat.le_of_ble_eq_true rfl) dL_law_417 ⟨by show _ ≤ 600000; omega, by show _ ≤ 7302250; omega⟩ (fun v hv => ?_)
    rcases hv with rfl
    · refine W.eq (g2 := F0 m 420 ls [.int _, .int _]) rfl ?_
      refine lv_icmp_eq (tgt := 573) hx hb dL_law_420 (by decide) (fun _ => ?_) (fun hne => absurd rfl hne)
      refine W.widen (k := cells + 2) (n := slots + 1537) (by omega) (by omega) ?_
      exact kk _ _ _ (zJ_mk (zJ_now HJ hs3 hO3)) hP hD hS
set_option maxHeartbeats 4000000 in
set_option maxRecDepth 100000 in
theorem lk_9 {p : Program} {l : Launch} {e : Env} {s : State} {m : MethodId} {below : List Frame} {meth : Method} {c : Code} {D : va_G} {cI cZ cW cC : ClassId} {b Ls : Nat} {xs : Nat → Int32} {aX aM : Nat → Nat} {u cells slots : Nat} {H : Heap} {locs : List Loc} {ls : Array Slot} {ws : va_W} {Q : State → Prop}
    (hFx : CallFix p m c code 4 s #[Value.ref b] wsL_law RL) (hX : va_X b Ls xs s s.heap) (hbl : b < s.heap.size) (hu : u + 5 ≤ Ls) (hLs : Ls ≤ 2560) (hcl : cells + 2 ≤ 600000) (hsl : slots + 1537 ≤ 7302250) (hK : zq_K D cI cZ cW cC s) (hJ : zJ cI cZ cW cC aX aM ws) (hP : va_P D vwCl ws H) (hD : va_D (fun q : Nat => s.heap.size ≤ q) ws) (hS : va_S (fun q : Nat => s.heap.size ≤ q) s.heap H locs) (hl : lv_has ls 4 [(0, .ref b), (1, .ref (aX 0)), (2, .ref (aM 0)), (3, .int (nI u))])
    (kk : ∀ (ws : va_W) (H : Heap) (locs : List Loc), zJ cI cZ cW cC aX aM ws → va_P D vwCl ws H → va_D (fun q : Nat => s.heap.size ≤ q) ws → va_S (fun q : Nat => s.heap.size ≤ q) s.heap H locs → W p l e room_1 s m #[Value.ref b] below meth c H locs (cells + 2) (slots + 1537) Q (F0 m 573 ls [])) :
    W p l e room_1 s m #[Value.ref b] below meth c H locs cells slots Q (F0 m 425 ls []) := by
  obtain ⟨hx, hb, hml, hown, hts⟩ := hFx
  obtain ⟨st, ln, N, L, k, n, sn, gv, oF, kF, fF, sF, bF, mF, hF, m1, m2, fs, fc, hm, PL, pf, wo, go, co, fo, bo, Gs, rfl, HJ⟩ := hJ
  obtain ⟨⟨hk, hn, hsn⟩, HL, HV, hOK, hGt, HW, HC, HH, hGs, hm0⟩ := id HJ
  have hA : ∀ q : Nat, s.heap.size ≤ q → (fun q : Nat => s.heap.size ≤ q) q := fun _ h => h
  have hbA : ¬ (fun q : Nat => s.heap.size ≤ q) b := Nat.not_le.mpr hbl
  have hfo : ∀ i, i < n → fo i < 6 := fun i hi => (HH i hi).2.1
  have hk8 : ∀ i, i < n → zr 8 (kF i) := fun i hi => (HH i hi).2.2.1
  have h5 : ∀ i, i < n → kF i = 5 → zr 256 (fF i) := fun i hi => (HH i hi).2.2.2.2.1
  have hbk : ∀ i, i < n → bo i ≤ k := fun i hi => (HH i hi).2.2.2.2.2.2.2
  refine lv_aload_n hx hb dL_law_425 rfl (lv_at hl 1 rfl) ?_
  refine lv_aload_n hx hb dL_law_426 rfl (lv_at hl 0 rfl) ?_
  refine lv_iload_n hx hb dL_law_427 rfl (lv_at hl 3 rfl) ?_
  refine lv_iconst (v := (nI 1)) hx hb dL_law_428 (by decide) ?_
  refine lv_iadd hx hb dL_law_429 ?_
  refine zq_te (y := (nI (u + 1))) (nI_add _ _) ?_
  refine zq_sld hx hb hX hbl hbA hS (u + 1) (by omega) hLs dL_law_430 ?_
  refine lv_aload_n hx hb dL_law_431 rfl (lv_at hl 0 rfl) ?_
  refine lv_iload_n hx hb dL_law_432 rfl (lv_at hl 3 rfl) ?_
  refine lv_iconst (v := (nI 2)) hx hb dL_law_433 (by decide) ?_
  refine lv_iadd hx hb dL_law_434 ?_
  refine zq_te (y := (nI (u + 2))) (nI_add _ _) ?_
  refine zq_sld hx hb hX hbl hbA hS (u + 2) (by omega) hLs dL_law_435 ?_
  refine zq_cZ (rest := []) ⟨hx, hb, hml, hown, hts⟩ (c_X3_mend l D cI cZ cW cC aX st ln N fs fc hm (nI sn) (nI k) (nI n) PL pf sn hsn rfl L HL HV hOK (zG gv 31) hGt n hn rfl co fo bo kF fF sF (zLK gv fo bo kF fF sF k) mF HC hfo h5 (xs (u + 1)) (xs (u + 2)) _) (cwV 2 hts gL_law_X3_mend rfl rfl rfl (by decide +kernel) ⟨Nat.le_of_ble_eq_true rfl, Nat.le_of_ble_eq_true rfl⟩) hK hP hD hS hA 3 0 rfl rfl rfl hl.1 rfl (Nat.le_of_ble_eq_true rfl) dL_law_436 ⟨by show _ ≤ 600000; omega, by show _ ≤ 7302250; omega⟩ (fun v w1 H locs hv hP hD hS => ?_)
  rcases hv with ⟨rfl, N3, sn3, rfl, hs3, hO3⟩
  · refine W.eq (g2 := F0 m 439 ls [.int _]) rfl ?_
    refine lv_aload_n hx hb dL_law_439 rfl (lv_at hl 2 rfl) ?_
    refine lv_aload_n hx hb dL_law_440 rfl (lv_at hl 0 rfl) ?_
    refine lv_iload_n hx hb dL_law_441 rfl (lv_at hl 3 rfl) ?_
    refine lv_iconst (v := (nI 1)) hx hb dL_law_442 (by decide) ?_
    refine lv_iadd hx hb dL_law_443 ?_
    refine zq_te (y := (nI (u + 1))) (nI_add _ _) ?_
    refine zq_sld hx hb hX hbl hbA hS (u + 1) (by omega) hLs dL_law_444 ?_
    refine lv_aload_n hx hb dL_law_445 rfl (lv_at hl 0 rfl) ?_
    refine lv_iload_n hx hb dL_law_446 rfl (lv_at hl 3 rfl) ?_
    refine lv_iconst (v := (nI 2)) hx hb dL_law_447 (by decide) ?_
    refine lv_iadd hx hb dL_law_448 ?_
    refine zq_te (y := (nI (u + 2))) (nI_add _ _) ?_
    refine zq_sld hx hb hX hbl hbA hS (u + 2) (by omega) hLs dL_law_449 ?_
    have hP := zP_flip hP
    have hD := zD_flip hD
    refine zq_cZ (rest := [.int _]) ⟨hx, hb, hml, hown, hts⟩ (c_X4_mend l D cI cZ cW cC aM ln st gv oF kF fF sF bF mF hF (nI k) (nI n) m1 m2 fo bo n k hn hk HH (zOK_B hGt) rfl (xs (u + 1)) (xs (u + 2)) _) (cwV 2 hts gL_law_X4_mend rfl rfl rfl (by decide +kernel) ⟨Nat.le_of_ble_eq_true rfl, Nat.le_of_ble_eq_true rfl⟩) hK hP hD hS hA 4 0 rfl rfl rfl hl.1 rfl (Nat.le_of_ble_eq_true rfl) dL_law_450 ⟨by show _ ≤ 600000; omega, by show _ ≤ 7302250; omega⟩ (fun v w1 H locs hv hP hD hS => ?_)
    rcases hv with ⟨rfl, a1, a2, rfl⟩
    · have hP := zP_flip hP
      have hD := zD_flip hD
      refine W.eq (g2 := F0 m 453 ls [.int _, .int _]) rfl ?_
      refine lv_icmp_eq (tgt := 573) hx hb dL_law_453 (by decide) (fun _ => ?_) (fun hne => absurd rfl hne)
      refine W.widen (k := cells + 2) (n := slots + 1537) (by omega) (by omega) ?_
      exact kk _ _ _ (zJ_mk (zJ_now HJ hs3 hO3)) hP hD hS
set_option maxHeartbeats 4000000 in
set_option maxRecDepth 100000 in
theorem lk_10 {p : Program} {l : Launch} {e : Env} {s : State} {m : MethodId} {below : List Frame} {meth : Method} {c : Code} {D : va_G} {cI cZ cW cC : ClassId} {b Ls : Nat} {xs : Nat → Int32} {aX aM : Nat → Nat} {u cells slots : Nat} {H : Heap} {locs : List Loc} {ls : Array Slot} {ws : va_W} {Q : State → Prop}
    (hFx : CallFix p m c code 4 s #[Value.ref b] wsL_law RL) (hX : va_X b Ls xs s s.heap) (hbl : b < s.heap.size) (hu : u + 5 ≤ Ls) (hLs : Ls ≤ 2560) (hcl : cells + 2 ≤ 600000) (hsl : slots + 1537 ≤ 7302250) (hK : zq_K D cI cZ cW cC s) (hJ : zJ cI cZ cW cC aX aM ws) (hP : va_P D vwCl ws H) (hD : va_D (fun q : Nat => s.heap.size ≤ q) ws) (hS : va_S (fun q : Nat => s.heap.size ≤ q) s.heap H locs) (hl : lv_has ls 4 [(0, .ref b), (1, .ref (aX 0)), (2, .ref (aM 0)), (3, .int (nI u))])
    (kk : ∀ (ws : va_W) (H : Heap) (locs : List Loc), zJ cI cZ cW cC aX aM ws → va_P D vwCl ws H → va_D (fun q : Nat => s.heap.size ≤ q) ws → va_S (fun q : Nat => s.heap.size ≤ q) s.heap H locs → W p l e room_1 s m #[Value.ref b] below meth c H locs (cells + 2) (slots + 1537) Q (F0 m 573 ls [])) :
    W p l e room_1 s m #[Value.ref b] below meth c H locs cells slots Q (F0 m 458 ls []) := by
  obtain ⟨hx, hb, hml, hown, hts⟩ := hFx
  obtain ⟨st, ln, N, L, k, n, sn, gv, oF, kF, fF, sF, bF, mF, hF, m1, m2, fs, fc, hm, PL, pf, wo, go, co, fo, bo, Gs, rfl, HJ⟩ := hJ
  obtain ⟨⟨hk, hn, hsn⟩, HL, HV, hOK, hGt, HW, HC, HH, hGs, hm0⟩ := id HJ
  have hA : ∀ q : Nat, s.heap.size ≤ q → (fun q : Nat => s.heap.size ≤ q) q := fun _ h => h
  have hbA : ¬ (fun q : Nat => s.heap.size ≤ q) b := Nat.not_le.mpr hbl
  have hfo : ∀ i, i < n → fo i < 6 := fun i hi => (HH i hi).2.1
  have hk8 : ∀ i, i < n → zr 8 (kF i) := fun i hi => (HH i hi).2.2.1
  have h5 : ∀ i, i < n → kF i = 5 → zr 256 (fF i) := fun i hi => (HH i hi).2.2.2.2.1
  have hbk : ∀ i, i < n → bo i ≤ k := fun i hi => (HH i hi).2.2.2.2.2.2.2
  refine lv_aload_n hx hb dL_law_458 rfl (lv_at hl 1 rfl) ?_
  refine lv_aload_n hx hb dL_law_459 rfl (lv_at hl 0 rfl) ?_
  refine lv_iload_n hx hb dL_law_460 rfl (lv_at hl 3 rfl) ?_
  refine lv_iconst (v := (nI 1)) hx hb dL_law_461 (by decide) ?_
  refine lv_iadd hx hb dL_law_462 ?_
  refine zq_te (y := (nI (u + 1))) (nI_add _ _) ?_
  refine zq_sld hx hb hX hbl hbA hS (u + 1) (by omega) hLs dL_law_463 ?_
  refine zq_cZ (rest := []) ⟨hx, hb, hml, hown, hts⟩ (c_X3_mended l D cI cZ cW cC aX st ln N fs fc hm (nI sn) (nI k) (nI n) PL pf sn hsn rfl L HL HV hOK (zG gv 31) hGt k hk rfl wo go Gs HW n hn rfl co fo bo kF fF sF (zLK gv fo bo kF fF sF k) mF HC hfo h5 hbk (xs (u + 1)) _) (cwV 1 hts gL_law_X3_mended rfl rfl rfl (by decide +kernel) ⟨Nat.le_of_ble_eq_true rfl, Nat.le_of_ble_eq_true rfl⟩) hK hP hD hS hA 3 0 rfl rfl rfl hl.1 rfl (Nat.le_of_ble_eq_true rfl) dL_law_464 ⟨by show _ ≤ 600000; omega, by show _ ≤ 7302250; omega⟩ (fun v w1 H locs hv hP hD hS => ?_)
  rcases hv with ⟨i, hmo, rfl, pf2, N3, sn3, rfl, hs3, hO3, HW2, HC2⟩ | ⟨hno, rfl, N3, sn3, rfl, hs3, hO3⟩
  · refine W.eq (g2 := F0 m 467 ls [.int 1]) rfl ?_
    refine lv_aload_n hx hb dL_law_467 rfl (lv_at hl 2 rfl) ?_
    refine lv_aload_n hx hb dL_law_468 rfl (lv_at hl 0 rfl) ?_
    refine lv_iload_n hx hb dL_law_469 rfl (lv_at hl 3 rfl) ?_
    refine lv_iconst (v := (nI 1)) hx hb dL_law_470 (by decide) ?_
    refine lv_iadd hx hb dL_law_471 ?_
    refine zq_te (y := (nI (u + 1))) (nI_add _ _) ?_
    refine zq_sld hx hb hX hbl hbA hS (u + 1) (by omega) hLs dL_law_472 ?_
    have hP := zP_flip hP
    have hD := zD_flip hD
    refine zq_cZ (rest := [.int 1]) ⟨hx, hb, hml, hown, hts⟩ (c_X4_mended l D cI cZ cW cC aM ln st gv oF kF fF sF bF mF hF (nI k) (nI n) m1 m2 fo bo n k hn hk HH (zOK_B hGt) rfl (xs (u + 1)) _) (cwV 1 hts gL_law_X4_mended rfl rfl rfl (by decide +kernel) ⟨Nat.le_of_ble_eq_true rfl, Nat.le_of_ble_eq_true rfl⟩) hK hP hD hS hA 4 0 rfl rfl rfl hl.1 rfl (Nat.le_of_ble_eq_true rfl) dL_law_473 ⟨by show _ ≤ 600000; omega, by show _ ≤ 7302250; omega⟩ (fun v w1 H locs hv hP hD hS => ?_)
    rcases hv with ⟨i2, hmo2, rfl, b1, b2, rfl⟩ | ⟨hno2, rfl, a1, a2, rfl⟩
    · have hP := zP_flip hP
      have hD := zD_flip hD
      have hi1 := hmo.1
      have hi2 := hmo2.1
      have e2 := zeq (hmo.2.1.symm.trans hmo2.2.1)
      subst e2
      refine W.eq (g2 := F0 m 476 ls [.int 1, .int 1]) rfl ?_
      refine lv_icmp_eq (tgt := 573) hx hb dL_law_476 (by decide) (fun _ => ?_) (fun hne => absurd rfl hne)
      refine W.widen (k := cells + 2) (n := slots + 1537) (by omega) (by omega) ?_
      exact kk _ _ _ (zJ_mk (zJ_mended HJ hmo hs3 hO3 HW2 HC2)) hP hD hS
    · exact absurd (hno2 ⟨i, hmo⟩) id
  · refine W.eq (g2 := F0 m 467 ls [.int 0]) rfl ?_
    refine lv_aload_n hx hb dL_law_467 rfl (lv_at hl 2 rfl) ?_
    refine lv_aload_n hx hb dL_law_468 rfl (lv_at hl 0 rfl) ?_
    refine lv_iload_n hx hb dL_law_469 rfl (lv_at hl 3 rfl) ?_
    refine lv_iconst (v := (nI 1)) hx hb dL_law_470 (by decide) ?_
    refine lv_iadd hx hb dL_law_471 ?_
    refine zq_te (y := (nI (u + 1))) (nI_add _ _) ?_
    refine zq_sld hx hb hX hbl hbA hS (u + 1) (by omega) hLs dL_law_472 ?_
    have hP := zP_flip hP
    have hD := zD_flip hD
    refine zq_cZ (rest := [.int 0]) ⟨hx, hb, hml, hown, hts⟩ (c_X4_mended l D cI cZ cW cC aM ln st gv oF kF fF sF bF mF hF (nI k) (nI n) m1 m2 fo bo n k hn hk HH (zOK_B hGt) rfl (xs (u + 1)) _) (cwV 1 hts gL_law_X4_mended rfl rfl rfl (by decide +kernel) ⟨Nat.le_of_ble_eq_true rfl, Nat.le_of_ble_eq_true rfl⟩) hK hP hD hS hA 4 0 rfl rfl rfl hl.1 rfl (Nat.le_of_ble_eq_true rfl) dL_law_473 ⟨by show _ ≤ 600000; omega, by show _ ≤ 7302250; omega⟩ (fun v w1 H locs hv hP hD hS => ?_)
    rcases hv with ⟨i2, hmo2, rfl, b1, b2, rfl⟩ | ⟨hno2, rfl, a1, a2, rfl⟩
    · exact absurd (hno ⟨i2, hmo2⟩) id
    · have hP := zP_flip hP
      have hD := zD_flip hD
      refine W.eq (g2 := F0 m 476 ls [.int 0, .int 0]) rfl ?_
      refine lv_icmp_eq (tgt := 573) hx hb dL_law_476 (by decide) (fun _ => ?_) (fun hne => absurd rfl hne)
      refine W.widen (k := cells + 2) (n := slots + 1537) (by omega) (by omega) ?_
      exact kk _ _ _ (zJ_mk (zJ_now HJ hs3 hO3)) hP hD hS
set_option maxHeartbeats 4000000 in
set_option maxRecDepth 100000 in
theorem lk_11 {p : Program} {l : Launch} {e : Env} {s : State} {m : MethodId} {below : List Frame} {meth : Method} {c : Code} {D : va_G} {cI cZ cW cC : ClassId} {b Ls : Nat} {xs : Nat → Int32} {aX aM : Nat → Nat} {u cells slots : Nat} {H : Heap} {locs : List Loc} {ls : Array Slot} {ws : va_W} {Q : State → Prop}
    (hFx : CallFix p m c code 4 s #[Value.ref b] wsL_law RL) (hX : va_X b Ls xs s s.heap) (hbl : b < s.heap.size) (hu : u + 5 ≤ Ls) (hLs : Ls ≤ 2560) (hcl : cells + 2 ≤ 600000) (hsl : slots + 1537 ≤ 7302250) (hK : zq_K D cI cZ cW cC s) (hJ : zJ cI cZ cW cC aX aM ws) (hP : va_P D vwCl ws H) (hD : va_D (fun q : Nat => s.heap.size ≤ q) ws) (hS : va_S (fun q : Nat => s.heap.size ≤ q) s.heap H locs) (hl : lv_has ls 4 [(0, .ref b), (1, .ref (aX 0)), (2, .ref (aM 0)), (3, .int (nI u))])
    (kk : ∀ (ws : va_W) (H : Heap) (locs : List Loc), zJ cI cZ cW cC aX aM ws → va_P D vwCl ws H → va_D (fun q : Nat => s.heap.size ≤ q) ws → va_S (fun q : Nat => s.heap.size ≤ q) s.heap H locs → W p l e room_1 s m #[Value.ref b] below meth c H locs (cells + 2) (slots + 1537) Q (F0 m 573 ls [])) :
    W p l e room_1 s m #[Value.ref b] below meth c H locs cells slots Q (F0 m 481 ls []) := by
  obtain ⟨hx, hb, hml, hown, hts⟩ := hFx
  obtain ⟨st, ln, N, L, k, n, sn, gv, oF, kF, fF, sF, bF, mF, hF, m1, m2, fs, fc, hm, PL, pf, wo, go, co, fo, bo, Gs, rfl, HJ⟩ := hJ
  obtain ⟨⟨hk, hn, hsn⟩, HL, HV, hOK, hGt, HW, HC, HH, hGs, hm0⟩ := id HJ
  have hA : ∀ q : Nat, s.heap.size ≤ q → (fun q : Nat => s.heap.size ≤ q) q := fun _ h => h
  have hbA : ¬ (fun q : Nat => s.heap.size ≤ q) b := Nat.not_le.mpr hbl
  have hfo : ∀ i, i < n → fo i < 6 := fun i hi => (HH i hi).2.1
  have hk8 : ∀ i, i < n → zr 8 (kF i) := fun i hi => (HH i hi).2.2.1
  have h5 : ∀ i, i < n → kF i = 5 → zr 256 (fF i) := fun i hi => (HH i hi).2.2.2.2.1
  have hbk : ∀ i, i < n → bo i ≤ k := fun i hi => (HH i hi).2.2.2.2.2.2.2
  refine lv_aload_n hx hb dL_law_481 rfl (lv_at hl 1 rfl) ?_
  refine lv_aload_n hx hb dL_law_482 rfl (lv_at hl 0 rfl) ?_
  refine lv_iload_n hx hb dL_law_483 rfl (lv_at hl 3 rfl) ?_
  refine lv_iconst (v := (nI 1)) hx hb dL_law_484 (by decide) ?_
  refine lv_iadd hx hb dL_law_485 ?_
  refine zq_te (y := (nI (u + 1))) (nI_add _ _) ?_
  refine zq_sld hx hb hX hbl hbA hS (u + 1) (by omega) hLs dL_law_486 ?_
  refine zq_cZ (rest := []) ⟨hx, hb, hml, hown, hts⟩ (c_X3_mark l D cI cZ cW cC aX st ln N fs fc hm (nI sn) (nI k) (nI n) PL pf k hk rfl wo go Gs HW n hn rfl co fo bo kF fF sF (zLK gv fo bo kF fF sF k) mF HC (xs (u + 1)) _) (cwV 1 hts gL_law_X3_mark rfl rfl rfl (by decide +kernel) ⟨Nat.le_of_ble_eq_true rfl, Nat.le_of_ble_eq_true rfl⟩) hK hP hD hS hA 3 0 rfl rfl rfl hl.1 rfl (Nat.le_of_ble_eq_true rfl) dL_law_487 ⟨by show _ ≤ 600000; omega, by show _ ≤ 7302250; omega⟩ (fun v w1 H locs hv hP hD hS => ?_)
  rcases hv with ⟨i, hi, ecl, hmi, rfl, pf2, rfl, HW2, HC2⟩ | ⟨hno, rfl, rfl⟩
  · refine W.eq (g2 := F0 m 490 ls [.int 1]) rfl ?_
    refine lv_aload_n hx hb dL_law_490 rfl (lv_at hl 2 rfl) ?_
    refine lv_aload_n hx hb dL_law_491 rfl (lv_at hl 0 rfl) ?_
    refine lv_iload_n hx hb dL_law_492 rfl (lv_at hl 3 rfl) ?_
    refine lv_iconst (v := (nI 1)) hx hb dL_law_493 (by decide) ?_
    refine lv_iadd hx hb dL_law_494 ?_
    refine zq_te (y := (nI (u + 1))) (nI_add _ _) ?_
    refine zq_sld hx hb hX hbl hbA hS (u + 1) (by omega) hLs dL_law_495 ?_
    have hP := zP_flip hP
    have hD := zD_flip hD
    refine zq_cZ (rest := [.int 1]) ⟨hx, hb, hml, hown, hts⟩ (c_X4_mark l D cI cZ cW cC aM ln st gv oF kF fF sF bF mF hF (nI k) (nI n) m1 m2 n hn rfl (xs (u + 1)) _) (cwV 1 hts gL_law_X4_mark rfl rfl rfl (by decide +kernel) ⟨Nat.le_of_ble_eq_true rfl, Nat.le_of_ble_eq_true rfl⟩) hK hP hD hS hA 4 0 rfl rfl rfl hl.1 rfl (Nat.le_of_ble_eq_true rfl) dL_law_496 ⟨by show _ ≤ 600000; omega, by show _ ≤ 7302250; omega⟩ (fun v w1 H locs hv hP hD hS => ?_)
    rcases hv with ⟨i2, hi2, ecl2, hmi2, rfl, rfl⟩ | ⟨hno2, rfl, rfl⟩
    · have hP := zP_flip hP
      have hD := zD_flip hD
      have e2 := zeq (ecl.symm.trans ecl2)
      subst e2
      refine W.eq (g2 := F0 m 499 ls [.int 1, .int 1]) rfl ?_
      refine lv_icmp_eq (tgt := 573) hx hb dL_law_499 (by decide) (fun _ => ?_) (fun hne => absurd rfl hne)
      refine W.widen (k := cells + 2) (n := slots + 1537) (by omega) (by omega) ?_
      exact kk _ _ _ (zJ_mk (zJ_mark HJ hi HW2 HC2)) hP hD hS
    · exact absurd (hno2 ⟨i, hi, ecl, hmi⟩) id
  · refine W.eq (g2 := F0 m 490 ls [.int 0]) rfl ?_
    refine lv_aload_n hx hb dL_law_490 rfl (lv_at hl 2 rfl) ?_
    refine lv_aload_n hx hb dL_law_491 rfl (lv_at hl 0 rfl) ?_
    refine lv_iload_n hx hb dL_law_492 rfl (lv_at hl 3 rfl) ?_
    refine lv_iconst (v := (nI 1)) hx hb dL_law_493 (by decide) ?_
    refine lv_iadd hx hb dL_law_494 ?_
    refine zq_te (y := (nI (u + 1))) (nI_add _ _) ?_
    refine zq_sld hx hb hX hbl hbA hS (u + 1) (by omega) hLs dL_law_495 ?_
    have hP := zP_flip hP
    have hD := zD_flip hD
    refine zq_cZ (rest := [.int 0]) ⟨hx, hb, hml, hown, hts⟩ (c_X4_mark l D cI cZ cW cC aM ln st gv oF kF fF sF bF mF hF (nI k) (nI n) m1 m2 n hn rfl (xs (u + 1)) _) (cwV 1 hts gL_law_X4_mark rfl rfl rfl (by decide +kernel) ⟨Nat.le_of_ble_eq_true rfl, Nat.le_of_ble_eq_true rfl⟩) hK hP hD hS hA 4 0 rfl rfl rfl hl.1 rfl (Nat.le_of_ble_eq_true rfl) dL_law_496 ⟨by show _ ≤ 600000; omega, by show _ ≤ 7302250; omega⟩ (fun v w1 H locs hv hP hD hS => ?_)
    rcases hv with ⟨i2, hi2, ecl2, hmi2, rfl, rfl⟩ | ⟨hno2, rfl, rfl⟩
    · exact absurd (hno ⟨i2, hi2, ecl2, hmi2⟩) id
    · have hP := zP_flip hP
      have hD := zD_flip hD
      refine W.eq (g2 := F0 m 499 ls [.int 0, .int 0]) rfl ?_
      refine lv_icmp_eq (tgt := 573) hx hb dL_law_499 (by decide) (fun _ => ?_) (fun hne => absurd rfl hne)
      refine W.widen (k := cells + 2) (n := slots + 1537) (by omega) (by omega) ?_
      exact kk _ _ _ (zJ_mk HJ) hP hD hS
set_option maxHeartbeats 4000000 in
set_option maxRecDepth 100000 in
theorem lk_12 {p : Program} {l : Launch} {e : Env} {s : State} {m : MethodId} {below : List Frame} {meth : Method} {c : Code} {D : va_G} {cI cZ cW cC : ClassId} {b Ls : Nat} {xs : Nat → Int32} {aX aM : Nat → Nat} {u cells slots : Nat} {H : Heap} {locs : List Loc} {ls : Array Slot} {ws : va_W} {Q : State → Prop}
    (hFx : CallFix p m c code 4 s #[Value.ref b] wsL_law RL) (hX : va_X b Ls xs s s.heap) (hbl : b < s.heap.size) (hu : u + 5 ≤ Ls) (hLs : Ls ≤ 2560) (hcl : cells + 2 ≤ 600000) (hsl : slots + 1537 ≤ 7302250) (hK : zq_K D cI cZ cW cC s) (hJ : zJ cI cZ cW cC aX aM ws) (hP : va_P D vwCl ws H) (hD : va_D (fun q : Nat => s.heap.size ≤ q) ws) (hS : va_S (fun q : Nat => s.heap.size ≤ q) s.heap H locs) (hl : lv_has ls 4 [(0, .ref b), (1, .ref (aX 0)), (2, .ref (aM 0)), (3, .int (nI u))])
    (kk : ∀ (ws : va_W) (H : Heap) (locs : List Loc), zJ cI cZ cW cC aX aM ws → va_P D vwCl ws H → va_D (fun q : Nat => s.heap.size ≤ q) ws → va_S (fun q : Nat => s.heap.size ≤ q) s.heap H locs → W p l e room_1 s m #[Value.ref b] below meth c H locs (cells + 2) (slots + 1537) Q (F0 m 573 ls [])) :
    W p l e room_1 s m #[Value.ref b] below meth c H locs cells slots Q (F0 m 504 ls []) := by
  obtain ⟨hx, hb, hml, hown, hts⟩ := hFx
  obtain ⟨st, ln, N, L, k, n, sn, gv, oF, kF, fF, sF, bF, mF, hF, m1, m2, fs, fc, hm, PL, pf, wo, go, co, fo, bo, Gs, rfl, HJ⟩ := hJ
  obtain ⟨⟨hk, hn, hsn⟩, HL, HV, hOK, hGt, HW, HC, HH, hGs, hm0⟩ := id HJ
  have hA : ∀ q : Nat, s.heap.size ≤ q → (fun q : Nat => s.heap.size ≤ q) q := fun _ h => h
  have hbA : ¬ (fun q : Nat => s.heap.size ≤ q) b := Nat.not_le.mpr hbl
  have hfo : ∀ i, i < n → fo i < 6 := fun i hi => (HH i hi).2.1
  have hk8 : ∀ i, i < n → zr 8 (kF i) := fun i hi => (HH i hi).2.2.1
  have h5 : ∀ i, i < n → kF i = 5 → zr 256 (fF i) := fun i hi => (HH i hi).2.2.2.2.1
  have hbk : ∀ i, i < n → bo i ≤ k := fun i hi => (HH i hi).2.2.2.2.2.2.2
  refine lv_aload_n hx hb dL_law_504 rfl (lv_at hl 1 rfl) ?_
  refine lv_aload_n hx hb dL_law_505 rfl (lv_at hl 0 rfl) ?_
  refine lv_iload_n hx hb dL_law_506 rfl (lv_at hl 3 rfl) ?_
  refine lv_iconst (v := (nI 1)) hx hb dL_law_507 (by decide) ?_
  refine lv_iadd hx hb dL_law_508 ?_
  refine zq_te (y := (nI (u + 1))) (nI_add _ _) ?_
  refine zq_sld hx hb hX hbl hbA hS (u + 1) (by omega) hLs dL_law_509 ?_
  refine zq_cZ (rest := []) ⟨hx, hb, hml, hown, hts⟩ (c_X3_listed l D cI cZ cW cC aX st ln N fs fc hm (nI sn) (nI k) (nI n) PL pf sn hsn rfl L HL HV hOK (zG gv 31) hGt n hn rfl co fo bo kF fF sF (zLK gv fo bo kF fF sF k) mF HC hfo (xs (u + 1)) _) (cwV 1 hts gL_law_X3_listed rfl rfl rfl (by decide +kernel) ⟨Nat.le_of_ble_eq_true rfl, Nat.le_of_ble_eq_true rfl⟩) hK hP hD hS hA 3 0 rfl rfl rfl hl.1 rfl (Nat.le_of_ble_eq_true rfl) dL_law_510 ⟨by show _ ≤ 600000; omega, by show _ ≤ 7302250; omega⟩ (fun v w1 H locs hv hP hD hS => ?_)
  rcases hv with ⟨⟨c1, xn, hxn, ex, hli, rfl⟩ | ⟨hno, rfl⟩, N3, sn3, h3, rfl, hs3, hO3⟩
  · refine W.eq (g2 := F0 m 513 ls [.int (nI c1)]) rfl ?_
    refine lv_aload_n hx hb dL_law_513 rfl (lv_at hl 2 rfl) ?_
    refine lv_aload_n hx hb dL_law_514 rfl (lv_at hl 0 rfl) ?_
    refine lv_iload_n hx hb dL_law_515 rfl (lv_at hl 3 rfl) ?_
    refine lv_iconst (v := (nI 1)) hx hb dL_law_516 (by decide) ?_
    refine lv_iadd hx hb dL_law_517 ?_
    refine zq_te (y := (nI (u + 1))) (nI_add _ _) ?_
    refine zq_sld hx hb hX hbl hbA hS (u + 1) (by omega) hLs dL_law_518 ?_
    have hP := zP_flip hP
    have hD := zD_flip hD
    refine zq_cZ (rest := [.int (nI c1)]) ⟨hx, hb, hml, hown, hts⟩ (c_X4_listed l D cI cZ cW cC aM ln st gv oF kF fF sF bF mF hF (nI k) (nI n) m1 m2 fo bo n k hn hk HH rfl (xs (u + 1)) _) (cwV 1 hts gL_law_X4_listed rfl rfl rfl (by decide +kernel) ⟨Nat.le_of_ble_eq_true rfl, Nat.le_of_ble_eq_true rfl⟩) hK hP hD hS hA 4 0 rfl rfl rfl hl.1 rfl (Nat.le_of_ble_eq_true rfl) dL_law_519 ⟨by show _ ≤ 600000; omega, by show _ ≤ 7302250; omega⟩ (fun v w1 H locs hv hP hD hS => ?_)
    rcases hv with ⟨⟨c2, xn2, hxn2, ex2, hli2, rfl⟩ | ⟨hno2, rfl⟩, h2, rfl⟩
    · have hP := zP_flip hP
      have hD := zD_flip hD
      have e2 := zeq (ex.symm.trans ex2)
      subst e2
      have e3 := zLi_one hli hli2
      subst e3
      refine W.eq (g2 := F0 m 522 ls [.int (nI c1), .int (nI c1)]) rfl ?_
      refine lv_icmp_eq (tgt := 573) hx hb dL_law_522 (by decide) (fun _ => ?_) (fun hne => absurd rfl hne)
      refine W.widen (k := cells + 2) (n := slots + 1537) (by omega) (by omega) ?_
      exact kk _ _ _ (zJ_mk (zJ_now HJ hs3 hO3)) hP hD hS
    · exact absurd (hno2 ⟨c1, xn, hxn, ex, hli⟩) id
  · refine W.eq (g2 := F0 m 513 ls [.int (-1)]) rfl ?_
    refine lv_aload_n hx hb dL_law_513 rfl (lv_at hl 2 rfl) ?_
    refine lv_aload_n hx hb dL_law_514 rfl (lv_at hl 0 rfl) ?_
    refine lv_iload_n hx hb dL_law_515 rfl (lv_at hl 3 rfl) ?_
    refine lv_iconst (v := (nI 1)) hx hb dL_law_516 (by decide) ?_
    refine lv_iadd hx hb dL_law_517 ?_
    refine zq_te (y := (nI (u + 1))) (nI_add _ _) ?_
    refine zq_sld hx hb hX hbl hbA hS (u + 1) (by omega) hLs dL_law_518 ?_
    have hP := zP_flip hP
    have hD := zD_flip hD
    refine zq_cZ (rest := [.int (-1)]) ⟨hx, hb, hml, hown, hts⟩ (c_X4_listed l D cI cZ cW cC aM ln st gv oF kF fF sF bF mF hF (nI k) (nI n) m1 m2 fo bo n k hn hk HH rfl (xs (u + 1)) _) (cwV 1 hts gL_law_X4_listed rfl rfl rfl (by decide +kernel) ⟨Nat.le_of_ble_eq_true rfl, Nat.le_of_ble_eq_true rfl⟩) hK hP hD hS hA 4 0 rfl rfl rfl hl.1 rfl (Nat.le_of_ble_eq_true rfl) dL_law_519 ⟨by show _ ≤ 600000; omega, by show _ ≤ 7302250; omega⟩ (fun v w1 H locs hv hP hD hS => ?_)
    rcases hv with ⟨⟨c2, xn2, hxn2, ex2, hli2, rfl⟩ | ⟨hno2, rfl⟩, h2, rfl⟩
    · exact absurd (hno ⟨c2, xn2, hxn2, ex2, hli2⟩) id
    · have hP := zP_flip hP
      have hD := zD_flip hD
      refine W.eq (g2 := F0 m 522 ls [.int (-1), .int (-1)]) rfl ?_
      refine lv_icmp_eq (tgt := 573) hx hb dL_law_522 (by decide) (fun _ => ?_) (fun hne => absurd rfl hne)
      refine W.widen (k := cells + 2) (n := slots + 1537) (by omega) (by omega) ?_
      exact kk _ _ _ (zJ_mk (zJ_now HJ hs3 hO3)) hP hD hS
set_option maxHeartbeats 4000000 in
set_option maxRecDepth 100000 in
theorem lk_13 {p : Program} {l : Launch} {e : Env} {s : State} {m : MethodId} {below : List Frame} {meth : Method} {c : Code} {D : va_G} {cI cZ cW cC : ClassId} {b Ls : Nat} {xs : Nat → Int32} {aX aM : Nat → Nat} {u cells slots : Nat} {H : Heap} {locs : List Loc} {ls : Array Slot} {ws : va_W} {Q : State → Prop}
    (hFx : CallFix p m c code 4 s #[Value.ref b] wsL_law RL) (hX : va_X b Ls xs s s.heap) (hbl : b < s.heap.size) (hu : u + 5 ≤ Ls) (hLs : Ls ≤ 2560) (hcl : cells + 2 ≤ 600000) (hsl : slots + 1537 ≤ 7302250) (hK : zq_K D cI cZ cW cC s) (hJ : zJ cI cZ cW cC aX aM ws) (hP : va_P D vwCl ws H) (hD : va_D (fun q : Nat => s.heap.size ≤ q) ws) (hS : va_S (fun q : Nat => s.heap.size ≤ q) s.heap H locs) (hl : lv_has ls 4 [(0, .ref b), (1, .ref (aX 0)), (2, .ref (aM 0)), (3, .int (nI u))])
    (kk : ∀ (ws : va_W) (H : Heap) (locs : List Loc), zJ cI cZ cW cC aX aM ws → va_P D vwCl ws H → va_D (fun q : Nat => s.heap.size ≤ q) ws → va_S (fun q : Nat => s.heap.size ≤ q) s.heap H locs → W p l e room_1 s m #[Value.ref b] below meth c H locs (cells + 2) (slots + 1537) Q (F0 m 573 ls [])) :
    W p l e room_1 s m #[Value.ref b] below meth c H locs cells slots Q (F0 m 527 ls []) := by
  obtain ⟨hx, hb, hml, hown, hts⟩ := hFx
  obtain ⟨st, ln, N, L, k, n, sn, gv, oF, kF, fF, sF, bF, mF, hF, m1, m2, fs, fc, hm, PL, pf, wo, go, co, fo, bo, Gs, rfl, HJ⟩ := hJ
  obtain ⟨⟨hk, hn, hsn⟩, HL, HV, hOK, hGt, HW, HC, HH, hGs, hm0⟩ := id HJ
  have hA : ∀ q : Nat, s.heap.size ≤ q → (fun q : Nat => s.heap.size ≤ q) q := fun _ h => h
  have hbA : ¬ (fun q : Nat => s.heap.size ≤ q) b := Nat.not_le.mpr hbl
  have hfo : ∀ i, i < n → fo i < 6 := fun i hi => (HH i hi).2.1
  have hk8 : ∀ i, i < n → zr 8 (kF i) := fun i hi => (HH i hi).2.2.1
  have h5 : ∀ i, i < n → kF i = 5 → zr 256 (fF i) := fun i hi => (HH i hi).2.2.2.2.1
  have hbk : ∀ i, i < n → bo i ≤ k := fun i hi => (HH i hi).2.2.2.2.2.2.2
  refine lv_aload_n hx hb dL_law_527 rfl (lv_at hl 1 rfl) ?_
  refine lv_aload_n hx hb dL_law_528 rfl (lv_at hl 0 rfl) ?_
  refine lv_iload_n hx hb dL_law_529 rfl (lv_at hl 3 rfl) ?_
  refine lv_iconst (v := (nI 1)) hx hb dL_law_530 (by decide) ?_
  refine lv_iadd hx hb dL_law_531 ?_
  refine zq_te (y := (nI (u + 1))) (nI_add _ _) ?_
  refine zq_sld hx hb hX hbl hbA hS (u + 1) (by omega) hLs dL_law_532 ?_
  refine zq_cZ (rest := []) ⟨hx, hb, hml, hown, hts⟩ (c_X3_missing l D cI cZ cW cC aX st ln N fs fc hm (nI sn) (nI k) (nI n) PL pf sn hsn rfl L HL HV hOK (zG gv 31) hGt n hn rfl co fo bo kF fF sF (zLK gv fo bo kF fF sF k) mF HC hfo hk8 (xs (u + 1)) _) (cwV 1 hts gL_law_X3_missing rfl rfl rfl (by decide +kernel) ⟨Nat.le_of_ble_eq_true rfl, Nat.le_of_ble_eq_true rfl⟩) hK hP hD hS hA 3 0 rfl rfl rfl hl.1 rfl (Nat.le_of_ble_eq_true rfl) dL_law_533 ⟨by show _ ≤ 600000; omega, by show _ ≤ 7302250; omega⟩ (fun v w1 H locs hv hP hD hS => ?_)
  rcases hv with ⟨rfl, N3, sn3, rfl, hs3, hO3⟩
  · refine W.eq (g2 := F0 m 536 ls [.int _]) rfl ?_
    refine lv_aload_n hx hb dL_law_536 rfl (lv_at hl 2 rfl) ?_
    refine lv_aload_n hx hb dL_law_537 rfl (lv_at hl 0 rfl) ?_
    refine lv_iload_n hx hb dL_law_538 rfl (lv_at hl 3 rfl) ?_
    refine lv_iconst (v := (nI 1)) hx hb dL_law_539 (by decide) ?_
    refine lv_iadd hx hb dL_law_540 ?_
    refine zq_te (y := (nI (u + 1))) (nI_add _ _) ?_
    refine zq_sld hx hb hX hbl hbA hS (u + 1) (by omega) hLs dL_law_541 ?_
    refine zq_cV (rest := [.int _]) ⟨hx, hb, hml, hown, hts⟩ (c_X4_missing l D cI cZ cW cC aM ln st gv oF kF fF sF bF mF hF (nI k) (nI n) m1 m2 fo bo n k hn hk HH rfl L HL (xs (u + 1))) (cwV 1 hts gL_law_X4_missing rfl rfl rfl (by decide +kernel) ⟨Nat.le_of_ble_eq_true rfl, Nat.le_of_ble_eq_true rfl⟩) hK (zP_fst (zP_flip hP)) 4 0 rfl rfl rfl hl.1 rfl (Nat.le_of_ble_eq_true rfl) dL_law_542 ⟨by show _ ≤ 600000; omega, by show _ ≤ 7302250; omega⟩ (fun v hv => ?_)
    rcases hv with rfl
    · refine W.eq (g2 := F0 m 545 ls [.int _, .int _]) rfl ?_
      refine lv_icmp_eq (tgt := 573) hx hb dL_law_545 (by decide) (fun _ => ?_) (fun hne => absurd rfl hne)
      refine W.widen (k := cells + 2) (n := slots + 1537) (by omega) (by omega) ?_
      exact kk _ _ _ (zJ_mk (zJ_now HJ hs3 hO3)) hP hD hS
set_option maxHeartbeats 4000000 in
set_option maxRecDepth 100000 in
theorem lk_14 {p : Program} {l : Launch} {e : Env} {s : State} {m : MethodId} {below : List Frame} {meth : Method} {c : Code} {D : va_G} {cI cZ cW cC : ClassId} {b Ls : Nat} {xs : Nat → Int32} {aX aM : Nat → Nat} {u cells slots : Nat} {H : Heap} {locs : List Loc} {ls : Array Slot} {ws : va_W} {Q : State → Prop}
    (hFx : CallFix p m c code 4 s #[Value.ref b] wsL_law RL) (hX : va_X b Ls xs s s.heap) (hbl : b < s.heap.size) (hu : u + 5 ≤ Ls) (hLs : Ls ≤ 2560) (hcl : cells + 2 ≤ 600000) (hsl : slots + 1537 ≤ 7302250) (hK : zq_K D cI cZ cW cC s) (hJ : zJ cI cZ cW cC aX aM ws) (hP : va_P D vwCl ws H) (hD : va_D (fun q : Nat => s.heap.size ≤ q) ws) (hS : va_S (fun q : Nat => s.heap.size ≤ q) s.heap H locs) (hl : lv_has ls 4 [(0, .ref b), (1, .ref (aX 0)), (2, .ref (aM 0)), (3, .int (nI u))])
    (kk : ∀ (ws : va_W) (H : Heap) (locs : List Loc), zJ cI cZ cW cC aX aM ws → va_P D vwCl ws H → va_D (fun q : Nat => s.heap.size ≤ q) ws → va_S (fun q : Nat => s.heap.size ≤ q) s.heap H locs → W p l e room_1 s m #[Value.ref b] below meth c H locs (cells + 2) (slots + 1537) Q (F0 m 573 ls [])) :
    W p l e room_1 s m #[Value.ref b] below meth c H locs cells slots Q (F0 m 550 ls []) := by
  obtain ⟨hx, hb, hml, hown, hts⟩ := hFx
  obtain ⟨st, ln, N, L, k, n, sn, gv, oF, kF, fF, sF, bF, mF, hF, m1, m2, fs, fc, hm, PL, pf, wo, go, co, fo, bo, Gs, rfl, HJ⟩ := hJ
  obtain ⟨⟨hk, hn, hsn⟩, HL, HV, hOK, hGt, HW, HC, HH, hGs, hm0⟩ := id HJ
  have hA : ∀ q : Nat, s.heap.size ≤ q → (fun q : Nat => s.heap.size ≤ q) q := fun _ h => h
  have hbA : ¬ (fun q : Nat => s.heap.size ≤ q) b := Nat.not_le.mpr hbl
  have hfo : ∀ i, i < n → fo i < 6 := fun i hi => (HH i hi).2.1
  have hk8 : ∀ i, i < n → zr 8 (kF i) := fun i hi => (HH i hi).2.2.1
  have h5 : ∀ i, i < n → kF i = 5 → zr 256 (fF i) := fun i hi => (HH i hi).2.2.2.2.1
  have hbk : ∀ i, i < n → bo i ≤ k := fun i hi => (HH i hi).2.2.2.2.2.2.2
  refine lv_aload_n hx hb dL_law_550 rfl (lv_at hl 1 rfl) ?_
  refine lv_aload_n hx hb dL_law_551 rfl (lv_at hl 0 rfl) ?_
  refine lv_iload_n hx hb dL_law_552 rfl (lv_at hl 3 rfl) ?_
  refine lv_iconst (v := (nI 1)) hx hb dL_law_553 (by decide) ?_
  refine lv_iadd hx hb dL_law_554 ?_
  refine zq_te (y := (nI (u + 1))) (nI_add _ _) ?_
  refine zq_sld hx hb hX hbl hbA hS (u + 1) (by omega) hLs dL_law_555 ?_
  refine zq_cZ (rest := []) ⟨hx, hb, hml, hown, hts⟩ (c_X3_count l D cI cZ cW cC aX st ln N fs fc hm (nI sn) (nI k) (nI n) PL pf sn hsn rfl L HL HV hOK (zG gv 31) hGt k hk rfl n hn rfl co fo bo kF fF sF (zLK gv fo bo kF fF sF k) mF HC hfo (xs (u + 1)) _) (cwV 1 hts gL_law_X3_count rfl rfl rfl (by decide +kernel) ⟨Nat.le_of_ble_eq_true rfl, Nat.le_of_ble_eq_true rfl⟩) hK hP hD hS hA 3 0 rfl rfl rfl hl.1 rfl (Nat.le_of_ble_eq_true rfl) dL_law_556 ⟨by show _ ≤ 600000; omega, by show _ ≤ 7302250; omega⟩ (fun v w1 H locs hv hP hD hS => ?_)
  rcases hv with ⟨rfl, N3, sn3, rfl, hs3, hO3⟩
  · refine W.eq (g2 := F0 m 559 ls [.int _]) rfl ?_
    refine lv_aload_n hx hb dL_law_559 rfl (lv_at hl 2 rfl) ?_
    refine lv_aload_n hx hb dL_law_560 rfl (lv_at hl 0 rfl) ?_
    refine lv_iload_n hx hb dL_law_561 rfl (lv_at hl 3 rfl) ?_
    refine lv_iconst (v := (nI 1)) hx hb dL_law_562 (by decide) ?_
    refine lv_iadd hx hb dL_law_563 ?_
    refine zq_te (y := (nI (u + 1))) (nI_add _ _) ?_
    refine zq_sld hx hb hX hbl hbA hS (u + 1) (by omega) hLs dL_law_564 ?_
    refine zq_cV (rest := [.int _]) ⟨hx, hb, hml, hown, hts⟩ (c_X4_count l D cI cZ cW cC aM ln st gv oF kF fF sF bF mF hF (nI k) (nI n) m1 m2 fo bo n k hn hk HH rfl rfl (xs (u + 1))) (cwV 1 hts gL_law_X4_count rfl rfl rfl (by decide +kernel) ⟨Nat.le_of_ble_eq_true rfl, Nat.le_of_ble_eq_true rfl⟩) hK (zP_fst (zP_flip hP)) 4 0 rfl rfl rfl hl.1 rfl (Nat.le_of_ble_eq_true rfl) dL_law_565 ⟨by show _ ≤ 600000; omega, by show _ ≤ 7302250; omega⟩ (fun v hv => ?_)
    rcases hv with rfl
    · refine W.eq (g2 := F0 m 568 ls [.int _, .int _]) rfl ?_
      refine lv_icmp_eq (tgt := 573) hx hb dL_law_568 (by decide) (fun _ => ?_) (fun hne => absurd rfl hne)
      refine W.widen (k := cells + 2) (n := slots + 1537) (by omega) (by omega) ?_
      exact kk _ _ _ (zJ_mk (zJ_now HJ hs3 hO3)) hP hD hS
