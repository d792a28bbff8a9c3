/-! WordsBeside: steps, runs, told, denied -/
theorem fa_first_cong {p q : Nat → Bool} : ∀ {n : Nat}, (∀ k, k < n → p k = q k) → fa_first p n = fa_first q n
  | 0, _ => rfl
  | n + 1, h => by
    rw [fa_first, fa_first, fa_first_cong (fun k hk => h k (by omega)), h n (by omega)]
theorem zden_cong {G G' : Nat → Int32} {f r : Nat} {kd p q : Int32} (h : ∀ j, j < 1536 → G j = G' j) (hf : f < 6) (hr : r < 256) : zden G f kd p q r = zden G' f kd p q r := by
  have h1 : G (256 * f + r) = G' (256 * f + r) := h _ (by omega)
  have h2 : zn16 G f r = zn16 G' f r := by
    unfold zn16
    by_cases q : r + 16 < 256
    · rw [if_pos q, if_pos q, h _ (by omega)]
    · rw [if_neg q, if_neg q]
  have h3 : zgp G p r = zgp G' p r := by
    unfold zgp
    by_cases q : p.toNatClampNeg < 6 ∧ ¬ p < 0
    · rw [if_pos q, if_pos q, h _ (by omega)]
    · rw [if_neg q, if_neg q]
  have h4 : G (256 * f + (r % 16 * 16 + r / 16)) = G' (256 * f + (r % 16 * 16 + r / 16)) := h _ (by omega)
  unfold zden
  rw [h1, h2, h3, h4]
theorem zct_cong {G G' : Nat → Int32} {f : Nat} {kd p q : Int32} (h : ∀ j, j < 1536 → G j = G' j) (hf : f < 6) : fb_ct (zden G f kd p q) 256 = fb_ct (zden G' f kd p q) 256 := fb_ct_cong (fun k hk => zden_cong h hf hk)
theorem zheld_cong {G G' : Nat → Int32} {f : Nat} {kd p q : Int32} (h : ∀ j, j < 1536 → G j = G' j) (hf : f < 6) : zheld (zden G f kd p q) = zheld (zden G' f kd p q) := by
  unfold zheld
  rw [zct_cong h hf]
theorem zff_cong {G G' : Nat → Int32} {f : Nat} {kd p q : Int32} (h : ∀ j, j < 1536 → G j = G' j) (hf : f < 6) : fa_first (zden G f kd p q) 256 = fa_first (zden G' f kd p q) 256 := fa_first_cong (fun k hk => zden_cong h hf hk)
theorem zrun_g1 {G : Nat → Int32} {f : Int32} {i j : Nat} (hi : i < 16) (hj : j < 16) : zg G f (nI (16 * i + j)) = zrun G f (nI i) (nI j) := by
  by_cases h : zr 6 f
  · obtain ⟨a, ha, rfl⟩ := h
    rw [zg_in ha (by omega), zrun_in ha hi hj]
  · rw [zg_nf h, zrun_no (fun q => h q.1)]
theorem zrun_g2 {G : Nat → Int32} {f x y : Int32} (h : ¬ (zr 16 x ∧ zr 16 y)) : zg G f (-1) = zrun G f x y := by
  rw [zg_nr (zr_lo (by decide)), zrun_no (fun q => h q.2)]

theorem w_X3_clear__fieldLink_RX3_12_WordsBeside_code_LWordsBeside_Code__2ab9f4 : (.fieldLink RX3 12 "WordsBeside" "code" "LWordsBeside$Code;" : Cond) ∈ wsX3_clear := by decide +kernel
theorem in_X3_clear_X3 : ∀ w ∈ wsX30, w ∈ wsX3_clear := fun _ h => List.mem_cons_of_mem _ (List.mem_append_left _ (List.mem_append_right _ h))
set_option maxHeartbeats 4000000 in
set_option maxRecDepth 100000 in
theorem c_X3_clear (l : Launch) (D : va_G) (cI cZ cW cC : ClassId) (ad : Nat → Nat) (st ln N : Nat → Int32) (fs fc : Nat → Option Nat) (hm : Nat → Int32) (se kp cm : Int32) (PL : List Nat) (pf : Nat → va_E) (sn : Nat) (hsn : sn ≤ 6) (es : se = nI sn) (fx : Int32) (sz : Nat) : zq_mu l D cI cZ cW cC yX3_clear wsX3_clear ({ frames := 2, cells := 0, slots := 0, locals := 42 } : Room) [.ref (ad 0), .int fx] ((cX cI cW cC ad st ln N fs fc hm se kp cm) ++ va_pl PL pf) sz (fun v w1 => (∃ f, f < 6 ∧ fx = nI f ∧ v = some (.int 1) ∧ w1 = ((cX cI cW cC ad st (upd ln f 0) N fs fc hm (nI (min sn f)) kp cm) ++ va_pl PL pf)) ∨ (¬ zr 6 fx ∧ v = some (.int 0) ∧ w1 = ((cX cI cW cC ad st ln N fs fc hm (nI sn) kp cm) ++ va_pl PL pf))) 0 0 := by
  refine zq_muZ (own := RX3) (by decide) rfl rfl (Nat.le_of_ble_eq_true rfl) ?_
  intro p e s m below meth c Q A ls hsz hF hin hA hP hK hD hS hl ret
  obtain ⟨hx, hb, hml, hown, hts⟩ := hF
  have hl : lv_has ls 2 [(0, .ref (ad 0)), (1, .int fx)] := hl
  subst es
  refine lv_iload_n hx hb dX3_clear_0 rfl (lv_at hl 1 rfl) ?_
  refine zq_cS (rest := []) ⟨hx, hb, hml, hown, hts⟩ (c_X3_isFunction l D cI cZ cW cC fx) (va_cwS 1 hts gX3_clear_X3_isFunction rfl rfl rfl (by decide +kernel) ⟨Nat.le_of_ble_eq_true rfl, Nat.le_of_ble_eq_true rfl⟩) hK (fun k q h => by simp at h) rfl hl.1 rfl (Nat.le_of_ble_eq_true rfl) dX3_clear_1 ⟨Nat.le_of_ble_eq_true rfl, Nat.le_of_ble_eq_true rfl⟩ (fun v hv => ?_)
  rcases hv with ⟨rfl, f, hf, rfl⟩ | ⟨rfl, hyf⟩
  · refine W.eq (g2 := F0 m 4 ls [.int (1 : Int32)]) rfl ?_
    refine lv_if_ne (tgt := 9) hx hb dX3_clear_4 (by decide) (fun c4 => ?_) (fun c4 => absurd c4 (by decide))
    refine lv_aload_n hx hb dX3_clear_9 rfl (lv_at hl 0 rfl) ?_
    refine zq_get hx hb hts in_X3_clear_X3 hown hK hP 0 rfl rfl 0 (by decide) (hts _ w_X3_clear__fieldLink_RX3_12_WordsBeside_code_LWordsBeside_Code__2ab9f4) rfl dX3_clear_10 ?_
    refine lv_iload_n hx hb dX3_clear_13 rfl (lv_at hl 1 rfl) ?_
    refine zq_cQ (rest := []) (X := [((ad 0), .inr (3, [.ref (ad 1), .ref (ad 4), .int (nI sn), .ref (ad 6), .int kp, .ref (ad 7), .int cm, .ref (ad 8)])), ((ad 1), .inr (1, [.ref (ad 2), .ref (ad 3)])), ((ad 2), .inl (cI, 72, .inl st)), ((ad 3), .inl (cI, 6, .inl ln)), ((ad 4), .inr (2, [.ref (ad 5)])), ((ad 5), .inl (cI, 1536, .inl N)), ((ad 6), .inl (cW, 31, .inr (.inr (.inr (.inr fs))))), ((ad 7), .inl (cC, 40, .inr (.inr (.inr (.inr fc))))), ((ad 8), .inl (cI, 40, .inl hm))]) (pl := va_pl PL pf) (wr := [((ad 0), .inr (3, [.ref (ad 1), .ref (ad 4), .int (nI sn), .ref (ad 6), .int kp, .ref (ad 7), .int cm, .ref (ad 8)])), ((ad 4), .inr (2, [.ref (ad 5)])), ((ad 5), .inl (cI, 1536, .inl N)), ((ad 6), .inl (cW, 31, .inr (.inr (.inr (.inr fs))))), ((ad 7), .inl (cC, 40, .inr (.inr (.inr (.inr fc))))), ((ad 8), .inl (cI, 40, .inl hm))]) ⟨hx, hb, hml, hown, hts⟩ (c_X1_empty l D cI cZ cW cC (ad 1) (ad 2) (ad 3) st ln f hf _) (cwV 1 hts gX3_clear_X1_empty rfl rfl rfl (by decide +kernel) ⟨Nat.le_of_ble_eq_true rfl, Nat.le_of_ble_eq_true rfl⟩) hK hP hD hS hA [1, 2, 3] [0, 4, 5, 6, 7, 8] rfl rfl rfl rfl (by decide) 1 0 rfl rfl rfl hl.1 rfl (Nat.le_of_ble_eq_true rfl) dX3_clear_14 ⟨Nat.le_of_ble_eq_true rfl, Nat.le_of_ble_eq_true rfl⟩ (fun v w1 H locs hv hP hD hS => ?_)
    obtain ⟨rfl, rfl⟩ := hv
    have hP := hP.part (cx := [((ad 0), .inr (3, [.ref (ad 1), .ref (ad 4), .int (nI sn), .ref (ad 6), .int kp, .ref (ad 7), .int cm, .ref (ad 8)])), ((ad 1), .inr (1, [.ref (ad 2), .ref (ad 3)])), ((ad 2), .inl (cI, 72, .inl st)), ((ad 3), .inl (cI, 6, .inl (upd ln f 0))), ((ad 4), .inr (2, [.ref (ad 5)])), ((ad 5), .inl (cI, 1536, .inl N)), ((ad 6), .inl (cW, 31, .inr (.inr (.inr (.inr fs))))), ((ad 7), .inl (cC, 40, .inr (.inr (.inr (.inr fc))))), ((ad 8), .inl (cI, 40, .inl hm))]) [0, 6, 7, 8, 1, 2, 3, 4, 5] rfl
    have hD := hD.part (cx := [((ad 0), .inr (3, [.ref (ad 1), .ref (ad 4), .int (nI sn), .ref (ad 6), .int kp, .ref (ad 7), .int cm, .ref (ad 8)])), ((ad 1), .inr (1, [.ref (ad 2), .ref (ad 3)])), ((ad 2), .inl (cI, 72, .inl st)), ((ad 3), .inl (cI, 6, .inl (upd ln f 0))), ((ad 4), .inr (2, [.ref (ad 5)])), ((ad 5), .inl (cI, 1536, .inl N)), ((ad 6), .inl (cW, 31, .inr (.inr (.inr (.inr fs))))), ((ad 7), .inl (cC, 40, .inr (.inr (.inr (.inr fc))))), ((ad 8), .inl (cI, 40, .inl hm))]) [0, 6, 7, 8, 1, 2, 3, 4, 5] (by decide) rfl
    have hP : va_P D vwCl ((cX cI cW cC ad st (upd ln f 0) N fs fc hm (nI sn) kp cm) ++ va_pl PL pf) H := hP
    have hD : va_D A ((cX cI cW cC ad st (upd ln f 0) N fs fc hm (nI sn) kp cm) ++ va_pl PL pf) := hD
    refine W.eq (g2 := F0 m 17 ls []) rfl ?_
    refine lv_aload_n hx hb dX3_clear_17 rfl (lv_at hl 0 rfl) ?_
    refine lv_iload_n hx hb dX3_clear_18 rfl (lv_at hl 1 rfl) ?_
    refine zq_cM (rest := []) ⟨hx, hb, hml, hown, hts⟩ (c_X3_unsettle l D cI cZ cW cC ad st (upd ln f 0) N fs fc hm (nI sn) kp cm PL pf sn f hsn hf rfl _) (cwV 1 hts gX3_clear_X3_unsettle rfl rfl rfl (by decide +kernel) ⟨Nat.le_of_ble_eq_true rfl, Nat.le_of_ble_eq_true rfl⟩) hK hP hD hS hA 3 0 rfl rfl rfl hl.1 rfl (Nat.le_of_ble_eq_true rfl) dX3_clear_19 ⟨Nat.le_of_ble_eq_true rfl, Nat.le_of_ble_eq_true rfl⟩ (fun v w1 H locs hv hP hD hS => ?_)
    obtain ⟨rfl, rfl⟩ := hv
    have hP : va_P D vwCl ((cX cI cW cC ad st (upd ln f 0) N fs fc hm (nI (min sn f)) kp cm) ++ va_pl PL pf) H := hP
    have hD : va_D A ((cX cI cW cC ad st (upd ln f 0) N fs fc hm (nI (min sn f)) kp cm) ++ va_pl PL pf) := hD
    refine W.eq (g2 := F0 m 22 ls []) rfl ?_
    refine lv_iconst (v := (1 : Int32)) hx hb dX3_clear_22 (by decide) ?_
    exact ret _ _ _ _ _ _ (Or.inr rfl) (Or.inl ⟨f, hf, rfl, rfl, rfl⟩) hP hD hS dX3_clear_23
  · refine W.eq (g2 := F0 m 4 ls [.int (0 : Int32)]) rfl ?_
    refine lv_if_ne (tgt := 9) hx hb dX3_clear_4 (by decide) (fun c4 => absurd c4 (by decide)) (fun c4 => ?_)
    refine lv_iconst (v := (0 : Int32)) hx hb dX3_clear_7 (by decide) ?_
    exact ret _ _ _ _ _ _ (Or.inl rfl) (Or.inr ⟨hyf, rfl, rfl⟩) hP hD hS dX3_clear_8
theorem w_X3_step__fieldLink_RX3_12_WordsBeside_code_LWordsBeside_Code__2ab9f4 : (.fieldLink RX3 12 "WordsBeside" "code" "LWordsBeside$Code;" : Cond) ∈ wsX3_step := by decide +kernel
theorem in_X3_step_X3 : ∀ w ∈ wsX30, w ∈ wsX3_step := fun _ h => List.mem_cons_of_mem _ (List.mem_append_left _ (List.mem_append_right _ h))
set_option maxHeartbeats 4000000 in
set_option maxRecDepth 100000 in
theorem c_X3_step (l : Launch) (D : va_G) (cI cZ cW cC : ClassId) (ad : Nat → Nat) (st ln N : Nat → Int32) (fs fc : Nat → Option Nat) (hm : Nat → Int32) (se kp cm : Int32) (PL : List Nat) (pf : Nat → va_E) (sn : Nat) (hsn : sn ≤ 6) (es : se = nI sn) (L : Nat → Nat) (HL : zHL ln L) (HV : ∀ f, f < 6 → zvs st f (L f)) (fx x : Int32) (sz : Nat) : zq_mu l D cI cZ cW cC yX3_step wsX3_step ({ frames := 4, cells := 0, slots := 0, locals := 91 } : Room) [.ref (ad 0), .int fx, .int x] ((cX cI cW cC ad st ln N fs fc hm se kp cm) ++ va_pl PL pf) sz (fun v w1 => (∃ f, f < 6 ∧ fx = nI f ∧ L f < 12 ∧ zcan st f (L f) (nI (L f)) x = true ∧ v = some (.int (nI (L f + 1))) ∧ w1 = ((cX cI cW cC ad (upd st (12 * f + L f) x) (upd ln f (nI (L f + 1))) N fs fc hm (nI (min sn f)) kp cm) ++ va_pl PL pf)) ∨ (¬ zst L st fx x ∧ v = some (.int (-1)) ∧ w1 = ((cX cI cW cC ad st ln N fs fc hm (nI sn) kp cm) ++ va_pl PL pf))) 0 0 := by
  refine zq_muI (own := RX3) (by decide) rfl rfl (Nat.le_of_ble_eq_true rfl) ?_
  intro p e s m below meth c Q A ls hsz hF hin hA hP hK hD hS hl ret
  obtain ⟨hx, hb, hml, hown, hts⟩ := hF
  have hl : lv_has ls 4 [(0, .ref (ad 0)), (1, .int fx), (2, .int x)] := hl
  subst es
  refine lv_iload_n hx hb dX3_step_0 rfl (lv_at hl 1 rfl) ?_
  refine zq_cS (rest := []) ⟨hx, hb, hml, hown, hts⟩ (c_X3_isFunction l D cI cZ cW cC fx) (va_cwS 1 hts gX3_step_X3_isFunction rfl rfl rfl (by decide +kernel) ⟨Nat.le_of_ble_eq_true rfl, Nat.le_of_ble_eq_true rfl⟩) hK (fun k q h => by simp at h) rfl hl.1 rfl (Nat.le_of_ble_eq_true rfl) dX3_step_1 ⟨Nat.le_of_ble_eq_true rfl, Nat.le_of_ble_eq_true rfl⟩ (fun v hv => ?_)
  rcases hv with ⟨rfl, f, hf, rfl⟩ | ⟨rfl, hyf⟩
  · refine W.eq (g2 := F0 m 4 ls [.int (1 : Int32)]) rfl ?_
    have hL := (HL f hf).2
    refine lv_if_ne (tgt := 9) hx hb dX3_step_4 (by decide) (fun c4 => ?_) (fun c4 => absurd c4 (by decide))
    refine lv_aload_n hx hb dX3_step_9 rfl (lv_at hl 0 rfl) ?_
    refine zq_get hx hb hts in_X3_step_X3 hown hK hP 0 rfl rfl 0 (by decide) (hts _ w_X3_step__fieldLink_RX3_12_WordsBeside_code_LWordsBeside_Code__2ab9f4) rfl dX3_step_10 ?_
    refine lv_iload_n hx hb dX3_step_13 rfl (lv_at hl 1 rfl) ?_
    refine zq_cV (rest := []) ⟨hx, hb, hml, hown, hts⟩ (zq_ro_mono (c_X1_length l D cI cZ cW cC (ad 1) (ad 2) (ad 3) st ln f hf) (fun v h => h.trans (congrArg (fun z => some (Value.int z)) (HL f hf).1))) (cwV 1 hts gX3_step_X1_length rfl rfl rfl (by decide +kernel) ⟨Nat.le_of_ble_eq_true rfl, Nat.le_of_ble_eq_true rfl⟩) hK (zP_3 (hP 1 _ rfl) (hP 2 _ rfl) (hP 3 _ rfl)) 1 0 rfl rfl rfl hl.1 rfl (Nat.le_of_ble_eq_true rfl) dX3_step_14 ⟨Nat.le_of_ble_eq_true rfl, Nat.le_of_ble_eq_true rfl⟩ (fun v hv => ?_)
    obtain rfl := hv
    refine W.eq (g2 := F0 m 17 ls [.int (nI (L f))]) rfl ?_
    refine lv_istore_n (lv' := [(3, .int (nI (L f))), (0, .ref (ad 0)), (1, .int (nI f)), (2, .int x)]) hx hb dX3_step_17 rfl hl (by decide) rfl (fun ls hl => ?_)
    refine lv_iload_n hx hb dX3_step_18 rfl (lv_at hl 0 rfl) ?_
    refine lv_bipush (v := (nI 12)) hx hb dX3_step_19 (by decide) ?_
    refine lv_icmp_ge (tgt := 37) hx hb dX3_step_21 (by decide) (fun c21 => ?_) (fun c21 => ?_)
    · have h21 := zle c21
      refine lv_iconst (v := (-1 : Int32)) hx hb dX3_step_37 (by decide) ?_
      exact ret _ _ _ _ _ _ (Or.inr ⟨(fun ⟨g, hg, e, h1, h2⟩ => by have e2 := zeq e; subst e2; omega), rfl, rfl⟩) hP hD hS dX3_step_38
    · have h21 := znle c21
      refine lv_aload_n hx hb dX3_step_24 rfl (lv_at hl 1 rfl) ?_
      refine zq_get hx hb hts in_X3_step_X3 hown hK hP 0 rfl rfl 0 (by decide) (hts _ w_X3_step__fieldLink_RX3_12_WordsBeside_code_LWordsBeside_Code__2ab9f4) rfl dX3_step_25 ?_
      refine lv_iload_n hx hb dX3_step_28 rfl (lv_at hl 2 rfl) ?_
      refine lv_iload_n hx hb dX3_step_29 rfl (lv_at hl 0 rfl) ?_
      refine lv_iload_n hx hb dX3_step_30 rfl (lv_at hl 3 rfl) ?_
      refine zq_cV (rest := []) ⟨hx, hb, hml, hown, hts⟩ (c_X1_canStand l D cI cZ cW cC (ad 1) (ad 2) (ad 3) st ln f hf (L f) (HL f hf).2 (HL f hf).1 (nI (L f)) x) (cwV 3 hts gX3_step_X1_canStand rfl rfl rfl (by decide +kernel) ⟨Nat.le_of_ble_eq_true rfl, Nat.le_of_ble_eq_true rfl⟩) hK (zP_3 (hP 1 _ rfl) (hP 2 _ rfl) (hP 3 _ rfl)) 1 0 rfl rfl rfl hl.1 rfl (Nat.le_of_ble_eq_true rfl) dX3_step_31 ⟨Nat.le_of_ble_eq_true rfl, Nat.le_of_ble_eq_true rfl⟩ (fun v hv => ?_)
      obtain rfl := hv
      refine W.eq (g2 := F0 m 34 ls [.int (if zcan st f (L f) (nI (L f)) x then (1 : Int32) else 0)]) rfl ?_
      refine lv_if_ne (tgt := 39) hx hb dX3_step_34 (by decide) (fun c34 => ?_) (fun c34 => ?_)
      · have hcan := zct_aa c34
        have hL2 : L f < 12 := by omega
        refine lv_aload_n hx hb dX3_step_39 rfl (lv_at hl 1 rfl) ?_
        refine zq_get hx hb hts in_X3_step_X3 hown hK hP 0 rfl rfl 0 (by decide) (hts _ w_X3_step__fieldLink_RX3_12_WordsBeside_code_LWordsBeside_Code__2ab9f4) rfl dX3_step_40 ?_
        refine lv_iload_n hx hb dX3_step_43 rfl (lv_at hl 2 rfl) ?_
        refine lv_iload_n hx hb dX3_step_44 rfl (lv_at hl 3 rfl) ?_
        refine zq_cQ (rest := []) (X := [((ad 0), .inr (3, [.ref (ad 1), .ref (ad 4), .int (nI sn), .ref (ad 6), .int kp, .ref (ad 7), .int cm, .ref (ad 8)])), ((ad 1), .inr (1, [.ref (ad 2), .ref (ad 3)])), ((ad 2), .inl (cI, 72, .inl st)), ((ad 3), .inl (cI, 6, .inl ln)), ((ad 4), .inr (2, [.ref (ad 5)])), ((ad 5), .inl (cI, 1536, .inl N)), ((ad 6), .inl (cW, 31, .inr (.inr (.inr (.inr fs))))), ((ad 7), .inl (cC, 40, .inr (.inr (.inr (.inr fc))))), ((ad 8), .inl (cI, 40, .inl hm))]) (pl := va_pl PL pf) (wr := [((ad 0), .inr (3, [.ref (ad 1), .ref (ad 4), .int (nI sn), .ref (ad 6), .int kp, .ref (ad 7), .int cm, .ref (ad 8)])), ((ad 4), .inr (2, [.ref (ad 5)])), ((ad 5), .inl (cI, 1536, .inl N)), ((ad 6), .inl (cW, 31, .inr (.inr (.inr (.inr fs))))), ((ad 7), .inl (cC, 40, .inr (.inr (.inr (.inr fc))))), ((ad 8), .inl (cI, 40, .inl hm))]) ⟨hx, hb, hml, hown, hts⟩ (c_X1_append l D cI cZ cW cC (ad 1) (ad 2) (ad 3) st ln f hf (L f) hL2 (HL f hf).1 x _) (cwV 2 hts gX3_step_X1_append rfl rfl rfl (by decide +kernel) ⟨Nat.le_of_ble_eq_true rfl, Nat.le_of_ble_eq_true rfl⟩) hK hP hD hS hA [1, 2, 3] [0, 4, 5, 6, 7, 8] rfl rfl rfl rfl (by decide) 1 0 rfl rfl rfl hl.1 rfl (Nat.le_of_ble_eq_true rfl) dX3_step_45 ⟨Nat.le_of_ble_eq_true rfl, Nat.le_of_ble_eq_true rfl⟩ (fun v w1 H locs hv hP hD hS => ?_)
        obtain ⟨rfl, rfl⟩ := hv
        have hP := hP.part (cx := [((ad 0), .inr (3, [.ref (ad 1), .ref (ad 4), .int (nI sn), .ref (ad 6), .int kp, .ref (ad 7), .int cm, .ref (ad 8)])), ((ad 1), .inr (1, [.ref (ad 2), .ref (ad 3)])), ((ad 2), .inl (cI, 72, .inl (upd st (12 * f + L f) x))), ((ad 3), .inl (cI, 6, .inl (upd ln f (nI (L f + 1))))), ((ad 4), .inr (2, [.ref (ad 5)])), ((ad 5), .inl (cI, 1536, .inl N)), ((ad 6), .inl (cW, 31, .inr (.inr (.inr (.inr fs))))), ((ad 7), .inl (cC, 40, .inr (.inr (.inr (.inr fc))))), ((ad 8), .inl (cI, 40, .inl hm))]) [0, 6, 7, 8, 1, 2, 3, 4, 5] rfl
        have hD := hD.part (cx := [((ad 0), .inr (3, [.ref (ad 1), .ref (ad 4), .int (nI sn), .ref (ad 6), .int kp, .ref (ad 7), .int cm, .ref (ad 8)])), ((ad 1), .inr (1, [.ref (ad 2), .ref (ad 3)])), ((ad 2), .inl (cI, 72, .inl (upd st (12 * f + L f) x))), ((ad 3), .inl (cI, 6, .inl (upd ln f (nI (L f + 1))))), ((ad 4), .inr (2, [.ref (ad 5)])), ((ad 5), .inl (cI, 1536, .inl N)), ((ad 6), .inl (cW, 31, .inr (.inr (.inr (.inr fs))))), ((ad 7), .inl (cC, 40, .inr (.inr (.inr (.inr fc))))), ((ad 8), .inl (cI, 40, .inl hm))]) [0, 6, 7, 8, 1, 2, 3, 4, 5] (by decide) rfl
        have hP : va_P D vwCl ((cX cI cW cC ad (upd st (12 * f + L f) x) (upd ln f (nI (L f + 1))) N fs fc hm (nI sn) kp cm) ++ va_pl PL pf) H := hP
        have hD : va_D A ((cX cI cW cC ad (upd st (12 * f + L f) x) (upd ln f (nI (L f + 1))) N fs fc hm (nI sn) kp cm) ++ va_pl PL pf) := hD
        refine W.eq (g2 := F0 m 48 ls []) rfl ?_
        refine lv_aload_n hx hb dX3_step_48 rfl (lv_at hl 1 rfl) ?_
        refine lv_iload_n hx hb dX3_step_49 rfl (lv_at hl 2 rfl) ?_
        refine zq_cM (rest := []) ⟨hx, hb, hml, hown, hts⟩ (c_X3_unsettle l D cI cZ cW cC ad (upd st (12 * f + L f) x) (upd ln f (nI (L f + 1))) N fs fc hm (nI sn) kp cm PL pf sn f hsn hf rfl _) (cwV 1 hts gX3_step_X3_unsettle rfl rfl rfl (by decide +kernel) ⟨Nat.le_of_ble_eq_true rfl, Nat.le_of_ble_eq_true rfl⟩) hK hP hD hS hA 3 0 rfl rfl rfl hl.1 rfl (Nat.le_of_ble_eq_true rfl) dX3_step_50 ⟨Nat.le_of_ble_eq_true rfl, Nat.le_of_ble_eq_true rfl⟩ (fun v w1 H locs hv hP hD hS => ?_)
        obtain ⟨rfl, rfl⟩ := hv
        have hP : va_P D vwCl ((cX cI cW cC ad (upd st (12 * f + L f) x) (upd ln f (nI (L f + 1))) N fs fc hm (nI (min sn f)) kp cm) ++ va_pl PL pf) H := hP
        have hD : va_D A ((cX cI cW cC ad (upd st (12 * f + L f) x) (upd ln f (nI (L f + 1))) N fs fc hm (nI (min sn f)) kp cm) ++ va_pl PL pf) := hD
        refine W.eq (g2 := F0 m 53 ls []) rfl ?_
        refine lv_iload_n hx hb dX3_step_53 rfl (lv_at hl 0 rfl) ?_
        refine lv_iconst (v := (nI 1)) hx hb dX3_step_54 (by decide) ?_
        refine lv_iadd hx hb dX3_step_55 ?_
        refine zq_te (y := (nI (L f + 1))) (nI_add _ _) ?_
        exact ret _ _ _ _ _ _ (Or.inl ⟨f, hf, rfl, hL2, hcan, rfl, rfl⟩) hP hD hS dX3_step_56
      · refine lv_iconst (v := (-1 : Int32)) hx hb dX3_step_37 (by decide) ?_
        exact ret _ _ _ _ _ _ (Or.inr ⟨(fun ⟨g, hg, e, h1, h2⟩ => by have e2 := zeq e; subst e2; rw [h2] at c34; exact absurd c34 (by decide)), rfl, rfl⟩) hP hD hS dX3_step_38
  · refine W.eq (g2 := F0 m 4 ls [.int (0 : Int32)]) rfl ?_
    refine lv_if_ne (tgt := 9) hx hb dX3_step_4 (by decide) (fun c4 => absurd c4 (by decide)) (fun c4 => ?_)
    refine lv_iconst (v := (-1 : Int32)) hx hb dX3_step_7 (by decide) ?_
    exact ret _ _ _ _ _ _ (Or.inr ⟨(fun ⟨g, hg, e, _⟩ => hyf ⟨g, hg, e⟩), rfl, rfl⟩) hP hD hS dX3_step_8
theorem w_X3_change__fieldLink_RX3_12_WordsBeside_code_LWordsBeside_Code__2ab9f4 : (.fieldLink RX3 12 "WordsBeside" "code" "LWordsBeside$Code;" : Cond) ∈ wsX3_change := by decide +kernel
theorem in_X3_change_X3 : ∀ w ∈ wsX30, w ∈ wsX3_change := fun _ h => List.mem_cons_of_mem _ (List.mem_append_left _ (List.mem_append_right _ h))
set_option maxHeartbeats 4000000 in
set_option maxRecDepth 100000 in
theorem c_X3_change (l : Launch) (D : va_G) (cI cZ cW cC : ClassId) (ad : Nat → Nat) (st ln N : Nat → Int32) (fs fc : Nat → Option Nat) (hm : Nat → Int32) (se kp cm : Int32) (PL : List Nat) (pf : Nat → va_E) (sn : Nat) (hsn : sn ≤ 6) (es : se = nI sn) (L : Nat → Nat) (HL : zHL ln L) (HV : ∀ f, f < 6 → zvs st f (L f)) (fx kx x : Int32) (sz : Nat) : zq_mu l D cI cZ cW cC yX3_change wsX3_change ({ frames := 4, cells := 0, slots := 0, locals := 91 } : Room) [.ref (ad 0), .int fx, .int kx, .int x] ((cX cI cW cC ad st ln N fs fc hm se kp cm) ++ va_pl PL pf) sz (fun v w1 => (∃ f k, f < 6 ∧ k < L f ∧ fx = nI f ∧ kx = nI k ∧ zcan st f (L f) (nI k) x = true ∧ v = some (.int 1) ∧ w1 = ((cX cI cW cC ad (upd st (12 * f + k) x) ln N fs fc hm (nI (min sn f)) kp cm) ++ va_pl PL pf)) ∨ (¬ zch L st fx kx x ∧ v = some (.int 0) ∧ w1 = ((cX cI cW cC ad st ln N fs fc hm (nI sn) kp cm) ++ va_pl PL pf))) 0 0 := by
  refine zq_muZ (own := RX3) (by decide) rfl rfl (Nat.le_of_ble_eq_true rfl) ?_
  intro p e s m below meth c Q A ls hsz hF hin hA hP hK hD hS hl ret
  obtain ⟨hx, hb, hml, hown, hts⟩ := hF
  have hl : lv_has ls 4 [(0, .ref (ad 0)), (1, .int fx), (2, .int kx), (3, .int x)] := hl
  subst es
  refine lv_iload_n hx hb dX3_change_0 rfl (lv_at hl 1 rfl) ?_
  refine zq_cS (rest := []) ⟨hx, hb, hml, hown, hts⟩ (c_X3_isFunction l D cI cZ cW cC fx) (va_cwS 1 hts gX3_change_X3_isFunction rfl rfl rfl (by decide +kernel) ⟨Nat.le_of_ble_eq_true rfl, Nat.le_of_ble_eq_true rfl⟩) hK (fun k q h => by simp at h) rfl hl.1 rfl (Nat.le_of_ble_eq_true rfl) dX3_change_1 ⟨Nat.le_of_ble_eq_true rfl, Nat.le_of_ble_eq_true rfl⟩ (fun v hv => ?_)
  rcases hv with ⟨rfl, f, hf, rfl⟩ | ⟨rfl, hyf⟩
  · refine W.eq (g2 := F0 m 4 ls [.int (1 : Int32)]) rfl ?_
    have hL := (HL f hf).2
    refine lv_if_eq (tgt := 23) hx hb dX3_change_4 (by decide) (fun c4 => absurd c4 (by decide)) (fun c4 => ?_)
    refine lv_iload_n hx hb dX3_change_7 rfl (lv_at hl 2 rfl) ?_
    refine lv_if_lt (tgt := 23) hx hb dX3_change_8 (by decide) (fun c8 => ?_) (fun c8 => ?_)
    · refine lv_iconst (v := (0 : Int32)) hx hb dX3_change_23 (by decide) ?_
      exact ret _ _ _ _ _ _ (Or.inl rfl) (Or.inr ⟨(fun ⟨g, i, hg, hi, e, e1, h2⟩ => nI_pos (by have := (HL g hg).2; omega) (e1 ▸ c8)), rfl, rfl⟩) hP hD hS dX3_change_24
    · obtain ⟨k, hk, rfl⟩ := nI_of c8
      refine lv_iload_n hx hb dX3_change_11 rfl (lv_at hl 2 rfl) ?_
      refine lv_aload_n hx hb dX3_change_12 rfl (lv_at hl 0 rfl) ?_
      refine zq_get hx hb hts in_X3_change_X3 hown hK hP 0 rfl rfl 0 (by decide) (hts _ w_X3_change__fieldLink_RX3_12_WordsBeside_code_LWordsBeside_Code__2ab9f4) rfl dX3_change_13 ?_
      refine lv_iload_n hx hb dX3_change_16 rfl (lv_at hl 1 rfl) ?_
      refine zq_cV (rest := [.int (nI k)]) ⟨hx, hb, hml, hown, hts⟩ (zq_ro_mono (c_X1_length l D cI cZ cW cC (ad 1) (ad 2) (ad 3) st ln f hf) (fun v h => h.trans (congrArg (fun z => some (Value.int z)) (HL f hf).1))) (cwV 1 hts gX3_change_X1_length rfl rfl rfl (by decide +kernel) ⟨Nat.le_of_ble_eq_true rfl, Nat.le_of_ble_eq_true rfl⟩) hK (zP_3 (hP 1 _ rfl) (hP 2 _ rfl) (hP 3 _ rfl)) 1 0 rfl rfl rfl hl.1 rfl (Nat.le_of_ble_eq_true rfl) dX3_change_17 ⟨Nat.le_of_ble_eq_true rfl, Nat.le_of_ble_eq_true rfl⟩ (fun v hv => ?_)
      obtain rfl := hv
      refine W.eq (g2 := F0 m 20 ls [.int (nI (L f)), .int (nI k)]) rfl ?_
      refine lv_icmp_lt (tgt := 25) hx hb dX3_change_20 (by decide) (fun c20 => ?_) (fun c20 => ?_)
      · have h20 := zlt c20
        refine lv_aload_n hx hb dX3_change_25 rfl (lv_at hl 0 rfl) ?_
        refine zq_get hx hb hts in_X3_change_X3 hown hK hP 0 rfl rfl 0 (by decide) (hts _ w_X3_change__fieldLink_RX3_12_WordsBeside_code_LWordsBeside_Code__2ab9f4) rfl dX3_change_26 ?_
        refine lv_iload_n hx hb dX3_change_29 rfl (lv_at hl 1 rfl) ?_
        refine lv_iload_n hx hb dX3_change_30 rfl (lv_at hl 2 rfl) ?_
        refine lv_iload_n hx hb dX3_change_31 rfl (lv_at hl 3 rfl) ?_
        refine zq_cV (rest := []) ⟨hx, hb, hml, hown, hts⟩ (c_X1_canStand l D cI cZ cW cC (ad 1) (ad 2) (ad 3) st ln f hf (L f) (HL f hf).2 (HL f hf).1 (nI k) x) (cwV 3 hts gX3_change_X1_canStand rfl rfl rfl (by decide +kernel) ⟨Nat.le_of_ble_eq_true rfl, Nat.le_of_ble_eq_true rfl⟩) hK (zP_3 (hP 1 _ rfl) (hP 2 _ rfl) (hP 3 _ rfl)) 1 0 rfl rfl rfl hl.1 rfl (Nat.le_of_ble_eq_true rfl) dX3_change_32 ⟨Nat.le_of_ble_eq_true rfl, Nat.le_of_ble_eq_true rfl⟩ (fun v hv => ?_)
        obtain rfl := hv
        refine W.eq (g2 := F0 m 35 ls [.int (if zcan st f (L f) (nI k) x then (1 : Int32) else 0)]) rfl ?_
        refine lv_if_ne (tgt := 40) hx hb dX3_change_35 (by decide) (fun c35 => ?_) (fun c35 => ?_)
        · have hcan := zct_aa c35
          refine lv_aload_n hx hb dX3_change_40 rfl (lv_at hl 0 rfl) ?_
          refine zq_get hx hb hts in_X3_change_X3 hown hK hP 0 rfl rfl 0 (by decide) (hts _ w_X3_change__fieldLink_RX3_12_WordsBeside_code_LWordsBeside_Code__2ab9f4) rfl dX3_change_41 ?_
          refine lv_iload_n hx hb dX3_change_44 rfl (lv_at hl 1 rfl) ?_
          refine lv_iload_n hx hb dX3_change_45 rfl (lv_at hl 2 rfl) ?_
          refine lv_iload_n hx hb dX3_change_46 rfl (lv_at hl 3 rfl) ?_
          refine zq_cQ (rest := []) (X := [((ad 0), .inr (3, [.ref (ad 1), .ref (ad 4), .int (nI sn), .ref (ad 6), .int kp, .ref (ad 7), .int cm, .ref (ad 8)])), ((ad 1), .inr (1, [.ref (ad 2), .ref (ad 3)])), ((ad 2), .inl (cI, 72, .inl st)), ((ad 3), .inl (cI, 6, .inl ln)), ((ad 4), .inr (2, [.ref (ad 5)])), ((ad 5), .inl (cI, 1536, .inl N)), ((ad 6), .inl (cW, 31, .inr (.inr (.inr (.inr fs))))), ((ad 7), .inl (cC, 40, .inr (.inr (.inr (.inr fc))))), ((ad 8), .inl (cI, 40, .inl hm))]) (pl := va_pl PL pf) (wr := [((ad 0), .inr (3, [.ref (ad 1), .ref (ad 4), .int (nI sn), .ref (ad 6), .int kp, .ref (ad 7), .int cm, .ref (ad 8)])), ((ad 4), .inr (2, [.ref (ad 5)])), ((ad 5), .inl (cI, 1536, .inl N)), ((ad 6), .inl (cW, 31, .inr (.inr (.inr (.inr fs))))), ((ad 7), .inl (cC, 40, .inr (.inr (.inr (.inr fc))))), ((ad 8), .inl (cI, 40, .inl hm))]) ⟨hx, hb, hml, hown, hts⟩ (c_X1_put l D cI cZ cW cC (ad 1) (ad 2) (ad 3) st ln f hf k (by omega) x _) (cwV 3 hts gX3_change_X1_put rfl rfl rfl (by decide +kernel) ⟨Nat.le_of_ble_eq_true rfl, Nat.le_of_ble_eq_true rfl⟩) hK hP hD hS hA [1, 2, 3] [0, 4, 5, 6, 7, 8] rfl rfl rfl rfl (by decide) 1 0 rfl rfl rfl hl.1 rfl (Nat.le_of_ble_eq_true rfl) dX3_change_47 ⟨Nat.le_of_ble_eq_true rfl, Nat.le_of_ble_eq_true rfl⟩ (fun v w1 H locs hv hP hD hS => ?_)
          obtain ⟨rfl, rfl⟩ := hv
          have hP := hP.part (cx := [((ad 0), .inr (3, [.ref (ad 1), .ref (ad 4), .int (nI sn), .ref (ad 6), .int kp, .ref (ad 7), .int cm, .ref (ad 8)])), ((ad 1), .inr (1, [.ref (ad 2), .ref (ad 3)])), ((ad 2), .inl (cI, 72, .inl (upd st (12 * f + k) x))), ((ad 3), .inl (cI, 6, .inl ln)), ((ad 4), .inr (2, [.ref (ad 5)])), ((ad 5), .inl (cI, 1536, .inl N)), ((ad 6), .inl (cW, 31, .inr (.inr (.inr (.inr fs))))), ((ad 7), .inl (cC, 40, .inr (.inr (.inr (.inr fc))))), ((ad 8), .inl (cI, 40, .inl hm))]) [0, 6, 7, 8, 1, 2, 3, 4, 5] rfl
          have hD := hD.part (cx := [((ad 0), .inr (3, [.ref (ad 1), .ref (ad 4), .int (nI sn), .ref (ad 6), .int kp, .ref (ad 7), .int cm, .ref (ad 8)])), ((ad 1), .inr (1, [.ref (ad 2), .ref (ad 3)])), ((ad 2), .inl (cI, 72, .inl (upd st (12 * f + k) x))), ((ad 3), .inl (cI, 6, .inl ln)), ((ad 4), .inr (2, [.ref (ad 5)])), ((ad 5), .inl (cI, 1536, .inl N)), ((ad 6), .inl (cW, 31, .inr (.inr (.inr (.inr fs))))), ((ad 7), .inl (cC, 40, .inr (.inr (.inr (.inr fc))))), ((ad 8), .inl (cI, 40, .inl hm))]) [0, 6, 7, 8, 1, 2, 3, 4, 5] (by decide) rfl
          have hP : va_P D vwCl ((cX cI cW cC ad (upd st (12 * f + k) x) ln N fs fc hm (nI sn) kp cm) ++ va_pl PL pf) H := hP
          have hD : va_D A ((cX cI cW cC ad (upd st (12 * f + k) x) ln N fs fc hm (nI sn) kp cm) ++ va_pl PL pf) := hD
          refine W.eq (g2 := F0 m 50 ls []) rfl ?_
          refine lv_aload_n hx hb dX3_change_50 rfl (lv_at hl 0 rfl) ?_
          refine lv_iload_n hx hb dX3_change_51 rfl (lv_at hl 1 rfl) ?_
          refine zq_cM (rest := []) ⟨hx, hb, hml, hown, hts⟩ (c_X3_unsettle l D cI cZ cW cC ad (upd st (12 * f + k) x) ln N fs fc hm (nI sn) kp cm PL pf sn f hsn hf rfl _) (cwV 1 hts gX3_change_X3_unsettle rfl rfl rfl (by decide +kernel) ⟨Nat.le_of_ble_eq_true rfl, Nat.le_of_ble_eq_true rfl⟩) hK hP hD hS hA 3 0 rfl rfl rfl hl.1 rfl (Nat.le_of_ble_eq_true rfl) dX3_change_52 ⟨Nat.le_of_ble_eq_true rfl, Nat.le_of_ble_eq_true rfl⟩ (fun v w1 H locs hv hP hD hS => ?_)
          obtain ⟨rfl, rfl⟩ := hv
          have hP : va_P D vwCl ((cX cI cW cC ad (upd st (12 * f + k) x) ln N fs fc hm (nI (min sn f)) kp cm) ++ va_pl PL pf) H := hP
          have hD : va_D A ((cX cI cW cC ad (upd st (12 * f + k) x) ln N fs fc hm (nI (min sn f)) kp cm) ++ va_pl PL pf) := hD
          refine W.eq (g2 := F0 m 55 ls []) rfl ?_
          refine lv_iconst (v := (1 : Int32)) hx hb dX3_change_55 (by decide) ?_
          exact ret _ _ _ _ _ _ (Or.inr rfl) (Or.inl ⟨f, k, hf, h20, rfl, rfl, hcan, rfl, rfl⟩) hP hD hS dX3_change_56
        · refine lv_iconst (v := (0 : Int32)) hx hb dX3_change_38 (by decide) ?_
          exact ret _ _ _ _ _ _ (Or.inl rfl) (Or.inr ⟨(fun ⟨g, i, hg, hi, e, e1, h2⟩ => by have e2 := zeq e; subst e2; have e3 := zeq e1 hk (by omega); subst e3; rw [h2] at c35; exact absurd c35 (by decide)), rfl, rfl⟩) hP hD hS dX3_change_39
      · have h20 := znlt c20
        refine lv_iconst (v := (0 : Int32)) hx hb dX3_change_23 (by decide) ?_
        exact ret _ _ _ _ _ _ (Or.inl rfl) (Or.inr ⟨(fun ⟨g, i, hg, hi, e, e1, h2⟩ => by have e2 := zeq e; subst e2; have e3 := zeq e1 hk (by omega); omega), rfl, rfl⟩) hP hD hS dX3_change_24
  · refine W.eq (g2 := F0 m 4 ls [.int (0 : Int32)]) rfl ?_
    refine lv_if_eq (tgt := 23) hx hb dX3_change_4 (by decide) (fun c4 => ?_) (fun c4 => absurd c4 (by decide))
    refine lv_iconst (v := (0 : Int32)) hx hb dX3_change_23 (by decide) ?_
    exact ret _ _ _ _ _ _ (Or.inl rfl) (Or.inr ⟨(fun ⟨g, i, hg, hi, e, e1, h2⟩ => hyf ⟨g, hg, e⟩), rfl, rfl⟩) hP hD hS dX3_change_24
set_option maxHeartbeats 4000000 in
set_option maxRecDepth 100000 in
theorem c_X3_run (l : Launch) (D : va_G) (cI cZ cW cC : ClassId) (ad : Nat → Nat) (st ln N : Nat → Int32) (fs fc : Nat → Option Nat) (hm : Nat → Int32) (se kp cm : Int32) (PL : List Nat) (pf : Nat → va_E) (sn : Nat) (hsn : sn ≤ 6) (es : se = nI sn) (L : Nat → Nat) (HL : zHL ln L) (HV : ∀ f, f < 6 → zvs st f (L f)) (hOK : zOK st L N sn) (Gt : Nat → Int32) (hGt : zOK st L Gt 6) (fx x y : Int32) (sz : Nat) : zq_mu l D cI cZ cW cC yX3_run wsX3_run ({ frames := 5, cells := 0, slots := 0, locals := 119 } : Room) [.ref (ad 0), .int fx, .int x, .int y] ((cX cI cW cC ad st ln N fs fc hm se kp cm) ++ va_pl PL pf) sz (fun v w1 => v = some (.int (zrun Gt fx x y)) ∧ ∃ (N3 : Nat → Int32) (sn3 : Nat), w1 = ((cX cI cW cC ad st ln N3 fs fc hm (nI sn3) kp cm) ++ va_pl PL pf) ∧ sn3 ≤ 6 ∧ zOK st L N3 sn3) 0 0 := by
  refine zq_muI (own := RX3) (by decide) rfl rfl (Nat.le_of_ble_eq_true rfl) ?_
  intro p e s m below meth c Q A ls hsz hF hin hA hP hK hD hS hl ret
  obtain ⟨hx, hb, hml, hown, hts⟩ := hF
  have hl : lv_has ls 4 [(0, .ref (ad 0)), (1, .int fx), (2, .int x), (3, .int y)] := hl
  subst es
  refine lv_aload_n hx hb dX3_run_0 rfl (lv_at hl 0 rfl) ?_
  refine zq_cM (rest := []) ⟨hx, hb, hml, hown, hts⟩ (c_X3_present l D cI cZ cW cC ad st ln N fs fc hm (nI sn) kp cm PL pf L HL HV sn hsn rfl hOK _) (cwV 0 hts gX3_run_X3_present rfl rfl rfl (by decide +kernel) ⟨Nat.le_of_ble_eq_true rfl, Nat.le_of_ble_eq_true rfl⟩) hK hP hD hS hA 3 0 rfl rfl rfl hl.1 rfl (Nat.le_of_ble_eq_true rfl) dX3_run_1 ⟨Nat.le_of_ble_eq_true rfl, Nat.le_of_ble_eq_true rfl⟩ (fun v w1 H locs hv hP hD hS => ?_)
  obtain ⟨rfl, N2, rfl, hN2⟩ := hv
  have hP : va_P D vwCl ((cX cI cW cC ad st ln N2 fs fc hm (nI 6) kp cm) ++ va_pl PL pf) H := hP
  have hD : va_D A ((cX cI cW cC ad st ln N2 fs fc hm (nI 6) kp cm) ++ va_pl PL pf) := hD
  refine W.eq (g2 := F0 m 4 ls [.ref (ad 4)]) rfl ?_
  have eN : ∀ j, j < 1536 → N2 j = Gt j := zOK_one (by omega) hN2 hGt HV
  refine lv_iload_n hx hb dX3_run_4 rfl (lv_at hl 1 rfl) ?_
  refine lv_iload_n hx hb dX3_run_5 rfl (lv_at hl 2 rfl) ?_
  refine lv_iload_n hx hb dX3_run_6 rfl (lv_at hl 3 rfl) ?_
  refine zq_cS (rest := [.int fx, .ref (ad 4)]) ⟨hx, hb, hml, hown, hts⟩ (c_X3_runNumber l D cI cZ cW cC x y) (va_cwS 2 hts gX3_run_X3_runNumber rfl rfl rfl (by decide +kernel) ⟨Nat.le_of_ble_eq_true rfl, Nat.le_of_ble_eq_true rfl⟩) hK (fun k q h => by simp at h) rfl hl.1 rfl (Nat.le_of_ble_eq_true rfl) dX3_run_7 ⟨Nat.le_of_ble_eq_true rfl, Nat.le_of_ble_eq_true rfl⟩ (fun v hv => ?_)
  rcases hv with ⟨i, j, hi, hj, rfl, rfl, rfl⟩ | ⟨rfl, hyr⟩
  · refine W.eq (g2 := F0 m 10 ls [.int (nI (16 * i + j)), .int fx, .ref (ad 4)]) rfl ?_
    refine zq_cV (rest := []) ⟨hx, hb, hml, hown, hts⟩ (c_X2_given l D cI cZ cW cC (ad 4) (ad 5) N2 fx (nI (16 * i + j))) (cwV 2 hts gX3_run_X2_given rfl rfl rfl (by decide +kernel) ⟨Nat.le_of_ble_eq_true rfl, Nat.le_of_ble_eq_true rfl⟩) hK (zP_2 (hP 4 _ rfl) (hP 5 _ rfl)) 2 0 rfl rfl rfl hl.1 rfl (Nat.le_of_ble_eq_true rfl) dX3_run_10 ⟨Nat.le_of_ble_eq_true rfl, Nat.le_of_ble_eq_true rfl⟩ (fun v hv => ?_)
    obtain rfl := hv
    refine W.eq (g2 := F0 m 13 ls [.int (zg N2 fx (nI (16 * i + j)))]) rfl ?_
    exact ret _ _ _ _ _ _ (by exact ⟨by rw [zrun_g1 hi hj, zrun_cong eN], _, 6, rfl, by omega, hN2⟩) hP hD hS dX3_run_13
  · refine W.eq (g2 := F0 m 10 ls [.int (-1 : Int32), .int fx, .ref (ad 4)]) rfl ?_
    refine zq_cV (rest := []) ⟨hx, hb, hml, hown, hts⟩ (c_X2_given l D cI cZ cW cC (ad 4) (ad 5) N2 fx (-1 : Int32)) (cwV 2 hts gX3_run_X2_given rfl rfl rfl (by decide +kernel) ⟨Nat.le_of_ble_eq_true rfl, Nat.le_of_ble_eq_true rfl⟩) hK (zP_2 (hP 4 _ rfl) (hP 5 _ rfl)) 2 0 rfl rfl rfl hl.1 rfl (Nat.le_of_ble_eq_true rfl) dX3_run_10 ⟨Nat.le_of_ble_eq_true rfl, Nat.le_of_ble_eq_true rfl⟩ (fun v hv => ?_)
    obtain rfl := hv
    refine W.eq (g2 := F0 m 13 ls [.int (zg N2 fx (-1 : Int32))]) rfl ?_
    exact ret _ _ _ _ _ _ (by exact ⟨by rw [zrun_g2 hyr, zrun_cong eN], _, 6, rfl, by omega, hN2⟩) hP hD hS dX3_run_13
