/-! WordsBeside: private methods that read -/

theorem w_X3_lastKeptHolding__fieldLink_RX3_187_WordsBeside_Claim_born_I__85974b : (.fieldLink RX3 187 "WordsBeside$Claim" "born" "I" : Cond) ∈ wsX3_lastKeptHolding := by decide +kernel
theorem w_X3_lastKeptHolding__fieldLink_RX3_31_WordsBeside_kept_I__a1b92e : (.fieldLink RX3 31 "WordsBeside" "kept" "I" : Cond) ∈ wsX3_lastKeptHolding := by decide +kernel
theorem in_X3_lastKeptHolding_X0 : ∀ w ∈ wsX00, w ∈ wsX3_lastKeptHolding := fun _ h => List.mem_cons_of_mem _ (List.mem_append_left _ (List.mem_append_right _ h))
theorem in_X3_lastKeptHolding_X3 : ∀ w ∈ wsX30, w ∈ wsX3_lastKeptHolding := fun _ h => List.mem_cons_of_mem _ (List.mem_append_left _ (List.mem_append_left _ (List.mem_append_right _ h)))
set_option maxHeartbeats 4000000 in
set_option maxRecDepth 100000 in
theorem c_X3_lastKeptHolding (l : Launch) (D : va_G) (cI cZ cW cC : ClassId) (ad : Nat → Nat) (st ln N : Nat → Int32) (fs fc : Nat → Option Nat) (hm : Nat → Int32) (se kp cm : Int32) (PL : List Nat) (pf : Nat → va_E) (k : Nat) (hk : k ≤ 30) (ek : kp = nI k) (wo go : Nat → Nat) (Gs : Nat → Nat → Int32) (HW : zPW cI PL pf fs wo go Gs k) (ca f b : Nat) (hf : f < 6) (hb0 : b ≤ k) (kd p1 q1 lh1 mk : Int32) (hca : ca ∈ PL) (epf : pf ca = .inr (0, [.int (nI f), .int kd, .int p1, .int q1, .int (nI b), .int lh1, .int mk])) : zq_ro l D cI cZ cW cC yX3_lastKeptHolding wsX3_lastKeptHolding ({ frames := 4, cells := 0, slots := 0, locals := 92 } : Room) [.ref (ad 0), .ref ca] ((cX cI cW cC ad st ln N fs fc hm se kp cm) ++ va_pl PL pf) (fun v => v = some (.int (zlk (fun t => zheld (zden (Gs t) f kd p1 q1)) b (k + 1)))) := by
  refine zq_roI (own := RX3) (by decide) rfl rfl (Nat.le_of_ble_eq_true rfl) ?_
  intro p e s m below meth c Q ls hF hP hK hl ret
  obtain ⟨hx, hb, hml, hown, hts⟩ := hF
  have hl : lv_has ls 4 [(0, .ref (ad 0)), (1, .ref ca)] := hl
  refine lv_aload_n hx hb dX3_lastKeptHolding_0 rfl (lv_at hl 0 rfl) ?_
  refine zq_get hx hb hts in_X3_lastKeptHolding_X3 hown hK hP 0 rfl rfl 4 (by decide) (hts _ w_X3_lastKeptHolding__fieldLink_RX3_31_WordsBeside_kept_I__a1b92e) rfl dX3_lastKeptHolding_1 ?_
  refine zq_te (y := (nI k)) ek ?_
  refine lv_istore_n (lv' := [(2, .int (nI k)), (0, .ref (ad 0)), (1, .ref ca)]) hx hb dX3_lastKeptHolding_4 rfl hl (by decide) rfl (fun ls hl => ?_)
  have loop5 : ∀ (fu5 : Nat) (u : Nat) (x2 : Int32) (ls : Array Slot), (u) < fu5 → (u ≤ k + 1) → (x2 = nI u - 1) → (zlk (fun t => zheld (zden (Gs t) f kd p1 q1)) b (k + 1) = zlk (fun t => zheld (zden (Gs t) f kd p1 q1)) b u) → lv_has ls 4 [(0, .ref (ad 0)), (1, .ref ca), (2, .int x2)] → W p l e ({ frames := 4, cells := 0, slots := 0, locals := 92 } : Room) s m ([.ref (ad 0), .ref ca] : List Value).toArray below meth c s.heap [] 0 0 Q (F0 m 5 ls []) := by
    intro fu5
    induction fu5 with
    | zero => intro _ _ _ hmu; exact absurd hmu (Nat.not_lt_zero _)
    | succ fu5 ih5 =>
      intro u x2 ls hmu5 hu ex2 hz hl
      refine lv_iload_n hx hb dX3_lastKeptHolding_5 rfl (lv_at hl 2 rfl) ?_
      refine lv_aload_n hx hb dX3_lastKeptHolding_6 rfl (lv_at hl 1 rfl) ?_
      obtain ⟨kq, hq⟩ := zpl_at (X := (cX cI cW cC ad st ln N fs fc hm se kp cm)) hca epf
      refine zq_get hx hb hts in_X3_lastKeptHolding_X0 hown hK hP kq hq rfl 4 (by decide) (hts _ w_X3_lastKeptHolding__fieldLink_RX3_187_WordsBeside_Claim_born_I__85974b) rfl dX3_lastKeptHolding_7 ?_
      refine lv_icmp_lt (tgt := 39) hx hb dX3_lastKeptHolding_10 (by decide) (fun c10 => ?_) (fun c10 => ?_)
      · have hub : u ≤ b := (zpm_lt (by omega) (by omega)).mp (ex2 ▸ c10)
        refine lv_iconst (v := (-1 : Int32)) hx hb dX3_lastKeptHolding_39 (by decide) ?_
        exact ret _ _ _ (by rw [hz]; cases u with
      | zero => rfl
      | succ u => rw [zlk, if_neg (by omega)]) dX3_lastKeptHolding_40
      · have hbu0 : b < u := Nat.not_le.mp fun q => c10 (by rw [ex2]; exact (zpm_lt (by omega) (by omega)).mpr q)
        obtain ⟨u2, rfl⟩ : ∃ q, u = q + 1 := ⟨u - 1, by omega⟩
        have hbu : b ≤ u2 := by omega
        rw [nI_pred] at ex2
        subst ex2
        refine lv_aload_n hx hb dX3_lastKeptHolding_13 rfl (lv_at hl 0 rfl) ?_
        refine lv_iload_n hx hb dX3_lastKeptHolding_14 rfl (lv_at hl 2 rfl) ?_
        refine zq_cV (rest := []) ⟨hx, hb, hml, hown, hts⟩ (cn_X3_keptState l D cI cZ cW cC ad st ln N fs fc hm se kp cm PL pf k hk ek wo go Gs HW u2 (by omega)) (cwV 1 hts gX3_lastKeptHolding_X3_keptState rfl rfl rfl (by decide +kernel) ⟨Nat.le_of_ble_eq_true rfl, Nat.le_of_ble_eq_true rfl⟩) hK hP 3 0 rfl rfl rfl hl.1 rfl (Nat.le_of_ble_eq_true rfl) dX3_lastKeptHolding_15 ⟨Nat.le_of_ble_eq_true rfl, Nat.le_of_ble_eq_true rfl⟩ (fun v hv => ?_)
        obtain rfl := hv
        refine W.eq (g2 := F0 m 18 ls [.ref (wo u2)]) rfl ?_
        refine lv_astore_n (lv' := [(3, .ref (wo u2)), (0, .ref (ad 0)), (1, .ref ca), (2, .int (nI u2))]) hx hb dX3_lastKeptHolding_18 rfl hl (by decide) rfl (fun ls hl => ?_)
        refine lv_aload_n hx hb dX3_lastKeptHolding_19 rfl (lv_at hl 0 rfl) ?_
        refine lv_ifnull hx hb dX3_lastKeptHolding_20 ?_
        refine lv_aload_n hx hb dX3_lastKeptHolding_23 rfl (lv_at hl 2 rfl) ?_
        refine lv_aload_n hx hb dX3_lastKeptHolding_24 rfl (lv_at hl 0 rfl) ?_
        refine zq_cV (rest := []) ⟨hx, hb, hml, hown, hts⟩ (c_X0_isHeldIn l D cI cZ cW cC ca (wo u2) (go u2) (Gs u2) f hf kd p1 q1 (nI b) lh1 mk) (cwV 1 hts gX3_lastKeptHolding_X0_isHeldIn rfl rfl rfl (by decide +kernel) ⟨Nat.le_of_ble_eq_true rfl, Nat.le_of_ble_eq_true rfl⟩) hK (zP_3 (zP_pl hP hca epf) (zP_pl hP (HW u2 (by omega)).2.1 (HW u2 (by omega)).2.2.1) (zP_pl hP (HW u2 (by omega)).2.2.2.1 (HW u2 (by omega)).2.2.2.2)) 0 0 rfl rfl rfl hl.1 rfl (Nat.le_of_ble_eq_true rfl) dX3_lastKeptHolding_25 ⟨Nat.le_of_ble_eq_true rfl, Nat.le_of_ble_eq_true rfl⟩ (fun v hv => ?_)
        obtain rfl := hv
        refine W.eq (g2 := F0 m 28 ls [.int (if zheld (zden (Gs u2) f kd p1 q1) then (1 : Int32) else 0)]) rfl ?_
        refine lv_if_eq (tgt := 33) hx hb dX3_lastKeptHolding_28 (by decide) (fun c28 => ?_) (fun c28 => ?_)
        · refine lv_iinc (v := (nI u2 + (-1))) (lv' := [(2, .int (nI u2 + (-1))), (3, .ref (wo u2)), (0, .ref (ad 0)), (1, .ref ca)]) hx hb dX3_lastKeptHolding_33 hl (k := 3) rfl (rfl) (by decide) rfl (fun ls hl => ?_)
          refine lv_goto (tgt := 5) hx hb dX3_lastKeptHolding_36 (by decide) ?_
          exact ih5 u2 (nI u2 + (-1)) ls (by omega) (by omega) (by rw [Int32.sub_eq_add_neg]) (by rw [hz, zlk, if_pos hbu]; simp only [zct_bb c28]; rfl) (lv_sub hl [2, 3, 0] rfl)
        · refine lv_iload_n hx hb dX3_lastKeptHolding_31 rfl (lv_at hl 3 rfl) ?_
          exact ret _ _ _ (by rw [hz, zlk, if_pos hbu]; simp only [zct_aa c28]; rfl) dX3_lastKeptHolding_32
  exact loop5 ((k + 1) + 1) (k + 1) (nI k) ls (by omega) (by omega) (nI_pred _).symm rfl (lv_sub hl [1, 2, 0] rfl)
set_option maxHeartbeats 4000000 in
set_option maxRecDepth 100000 in
theorem c_X3_canBeClaimed (l : Launch) (D : va_G) (cI cZ cW cC : ClassId) (kd p1 q1 : Int32) : zq_ro l D cI cZ cW cC yX3_canBeClaimed wsX3_canBeClaimed ({ frames := 1, cells := 0, slots := 0, locals := 20 } : Room) [.int kd, .int p1, .int q1] [] (fun v => (v = some (.int 1) ∧ zcl kd p1 q1) ∨ (v = some (.int 0) ∧ ¬ zcl kd p1 q1)) := by
  refine zq_roZ (own := RX3) (by decide) rfl rfl (Nat.le_of_ble_eq_true rfl) ?_
  intro p e s m below meth c Q ls hF hP hK hl ret
  obtain ⟨hx, hb, hml, hown, hts⟩ := hF
  have hl : lv_has ls 3 [(0, .int kd), (1, .int p1), (2, .int q1)] := hl
  refine lv_iload_n hx hb dX3_canBeClaimed_0 rfl (lv_at hl 0 rfl) ?_
  by_cases k1_0 : kd = (0 : Int32)
  · refine lv_tableIn (tgt := 48) hx hb dX3_canBeClaimed_1 (by rw [k1_0]; decide) (by rw [k1_0]; decide) (by rw [k1_0]; rfl) (by decide) ?_
    refine lv_iload_n hx hb dX3_canBeClaimed_48 rfl (lv_at hl 1 rfl) ?_
    refine zq_cS (rest := []) ⟨hx, hb, hml, hown, hts⟩ (c_X3_isWithinLimit l D cI cZ cW cC p1) (va_cwS 1 hts gX3_canBeClaimed_X3_isWithinLimit rfl rfl rfl (by decide +kernel) ⟨Nat.le_of_ble_eq_true rfl, Nat.le_of_ble_eq_true rfl⟩) hK (fun k q h => by simp at h) rfl hl.1 rfl (Nat.le_of_ble_eq_true rfl) dX3_canBeClaimed_49 ⟨Nat.le_of_ble_eq_true rfl, Nat.le_of_ble_eq_true rfl⟩ (fun v hv => ?_)
    rcases hv with ⟨rfl, hwp⟩ | ⟨rfl, hwp⟩
    · refine W.eq (g2 := F0 m 52 ls [.int (1 : Int32)]) rfl ?_
      refine lv_if_eq (tgt := 71) hx hb dX3_canBeClaimed_52 (by decide) (fun c52 => absurd c52 (by decide)) (fun c52 => ?_)
      refine lv_iload_n hx hb dX3_canBeClaimed_55 rfl (lv_at hl 2 rfl) ?_
      refine zq_cS (rest := []) ⟨hx, hb, hml, hown, hts⟩ (c_X3_isWithinLimit l D cI cZ cW cC q1) (va_cwS 1 hts gX3_canBeClaimed_X3_isWithinLimit rfl rfl rfl (by decide +kernel) ⟨Nat.le_of_ble_eq_true rfl, Nat.le_of_ble_eq_true rfl⟩) hK (fun k q h => by simp at h) rfl hl.1 rfl (Nat.le_of_ble_eq_true rfl) dX3_canBeClaimed_56 ⟨Nat.le_of_ble_eq_true rfl, Nat.le_of_ble_eq_true rfl⟩ (fun v hv => ?_)
      rcases hv with ⟨rfl, hwq⟩ | ⟨rfl, hwq⟩
      · refine W.eq (g2 := F0 m 59 ls [.int (1 : Int32)]) rfl ?_
        refine lv_if_eq (tgt := 71) hx hb dX3_canBeClaimed_59 (by decide) (fun c59 => absurd c59 (by decide)) (fun c59 => ?_)
        refine lv_iload_n hx hb dX3_canBeClaimed_62 rfl (lv_at hl 1 rfl) ?_
        refine lv_iload_n hx hb dX3_canBeClaimed_63 rfl (lv_at hl 2 rfl) ?_
        refine lv_icmp_gt (tgt := 71) hx hb dX3_canBeClaimed_64 (by decide) (fun c64 => ?_) (fun c64 => ?_)
        · refine lv_iconst (v := (0 : Int32)) hx hb dX3_canBeClaimed_71 (by decide) ?_
          exact ret _ _ _ (Or.inl rfl) (Or.inr ⟨rfl, fun q => by rw [k1_0] at q; rcases q with z | z | z | z | z | z | z | z <;> first | exact absurd z (by decide) | exact absurd z.1 (by decide) | (exact absurd z.2.2.1 (Int32.not_le.mpr c64)) | fail "open"⟩) dX3_canBeClaimed_72
        · refine lv_iconst (v := (1 : Int32)) hx hb dX3_canBeClaimed_67 (by decide) ?_
          refine lv_goto (tgt := 72) hx hb dX3_canBeClaimed_68 (by decide) ?_
          exact ret _ _ _ (Or.inr rfl) (Or.inl ⟨rfl, Or.inl ⟨k1_0, hwp.1, Int32.not_lt.mp c64, hwq.2⟩⟩) dX3_canBeClaimed_72
      · refine W.eq (g2 := F0 m 59 ls [.int (0 : Int32)]) rfl ?_
        refine lv_if_eq (tgt := 71) hx hb dX3_canBeClaimed_59 (by decide) (fun c59 => ?_) (fun c59 => absurd c59 (by decide))
        refine lv_iconst (v := (0 : Int32)) hx hb dX3_canBeClaimed_71 (by decide) ?_
        exact ret _ _ _ (Or.inl rfl) (Or.inr ⟨rfl, fun q => by rw [k1_0] at q; rcases q with z | z | z | z | z | z | z | z <;> first | exact absurd z (by decide) | exact absurd z.1 (by decide) | (exact hwq.elim (fun y => absurd (Int32.le_trans z.2.1 z.2.2.1) (Int32.not_le.mpr y)) (fun y => absurd z.2.2.2 (Int32.not_le.mpr y))) | fail "open"⟩) dX3_canBeClaimed_72
    · refine W.eq (g2 := F0 m 52 ls [.int (0 : Int32)]) rfl ?_
      refine lv_if_eq (tgt := 71) hx hb dX3_canBeClaimed_52 (by decide) (fun c52 => ?_) (fun c52 => absurd c52 (by decide))
      refine lv_iconst (v := (0 : Int32)) hx hb dX3_canBeClaimed_71 (by decide) ?_
      exact ret _ _ _ (Or.inl rfl) (Or.inr ⟨rfl, fun q => by rw [k1_0] at q; rcases q with z | z | z | z | z | z | z | z <;> first | exact absurd z (by decide) | exact absurd z.1 (by decide) | (exact hwp.elim (fun y => absurd z.2.1 (Int32.not_le.mpr y)) (fun y => absurd (Int32.le_trans z.2.2.1 z.2.2.2) (Int32.not_le.mpr y))) | fail "open"⟩) dX3_canBeClaimed_72
  · by_cases k1_1 : kd = (1 : Int32)
    · refine lv_tableIn (tgt := 73) hx hb dX3_canBeClaimed_1 (by rw [k1_1]; decide) (by rw [k1_1]; decide) (by rw [k1_1]; rfl) (by decide) ?_
      refine lv_iconst (v := (1 : Int32)) hx hb dX3_canBeClaimed_73 (by decide) ?_
      exact ret _ _ _ (Or.inr rfl) (Or.inl ⟨rfl, Or.inr (Or.inl k1_1)⟩) dX3_canBeClaimed_74
    · by_cases k1_2 : kd = (2 : Int32)
      · refine lv_tableIn (tgt := 73) hx hb dX3_canBeClaimed_1 (by rw [k1_2]; decide) (by rw [k1_2]; decide) (by rw [k1_2]; rfl) (by decide) ?_
        refine lv_iconst (v := (1 : Int32)) hx hb dX3_canBeClaimed_73 (by decide) ?_
        exact ret _ _ _ (Or.inr rfl) (Or.inl ⟨rfl, Or.inr (Or.inr (Or.inl k1_2))⟩) dX3_canBeClaimed_74
      · by_cases k1_3 : kd = (3 : Int32)
        · refine lv_tableIn (tgt := 75) hx hb dX3_canBeClaimed_1 (by rw [k1_3]; decide) (by rw [k1_3]; decide) (by rw [k1_3]; rfl) (by decide) ?_
          refine lv_iload_n hx hb dX3_canBeClaimed_75 rfl (lv_at hl 1 rfl) ?_
          refine lv_iconst (v := (1 : Int32)) hx hb dX3_canBeClaimed_76 (by decide) ?_
          refine lv_icmp_lt (tgt := 91) hx hb dX3_canBeClaimed_77 (by decide) (fun c77 => ?_) (fun c77 => ?_)
          · refine lv_iconst (v := (0 : Int32)) hx hb dX3_canBeClaimed_91 (by decide) ?_
            exact ret _ _ _ (Or.inl rfl) (Or.inr ⟨rfl, fun q => by rw [k1_3] at q; rcases q with z | z | z | z | z | z | z | z <;> first | exact absurd z (by decide) | exact absurd z.1 (by decide) | (exact absurd z.2.1 (Int32.not_le.mpr c77)) | fail "open"⟩) dX3_canBeClaimed_92
          · refine lv_iload_n hx hb dX3_canBeClaimed_80 rfl (lv_at hl 1 rfl) ?_
            refine lv_sipush (v := (nI 1000)) hx hb dX3_canBeClaimed_81 (by decide) ?_
            refine lv_icmp_gt (tgt := 91) hx hb dX3_canBeClaimed_84 (by decide) (fun c84 => ?_) (fun c84 => ?_)
            · refine lv_iconst (v := (0 : Int32)) hx hb dX3_canBeClaimed_91 (by decide) ?_
              exact ret _ _ _ (Or.inl rfl) (Or.inr ⟨rfl, fun q => by rw [k1_3] at q; rcases q with z | z | z | z | z | z | z | z <;> first | exact absurd z (by decide) | exact absurd z.1 (by decide) | (exact absurd z.2.2 (Int32.not_le.mpr c84)) | fail "open"⟩) dX3_canBeClaimed_92
            · refine lv_iconst (v := (1 : Int32)) hx hb dX3_canBeClaimed_87 (by decide) ?_
              refine lv_goto (tgt := 92) hx hb dX3_canBeClaimed_88 (by decide) ?_
              exact ret _ _ _ (Or.inr rfl) (Or.inl ⟨rfl, Or.inr (Or.inr (Or.inr (Or.inl ⟨k1_3, Int32.not_lt.mp c77, Int32.not_lt.mp c84⟩)))⟩) dX3_canBeClaimed_92
        · by_cases k1_4 : kd = (4 : Int32)
          · refine lv_tableIn (tgt := 73) hx hb dX3_canBeClaimed_1 (by rw [k1_4]; decide) (by rw [k1_4]; decide) (by rw [k1_4]; rfl) (by decide) ?_
            refine lv_iconst (v := (1 : Int32)) hx hb dX3_canBeClaimed_73 (by decide) ?_
            exact ret _ _ _ (Or.inr rfl) (Or.inl ⟨rfl, Or.inr (Or.inr (Or.inr (Or.inr (Or.inl k1_4))))⟩) dX3_canBeClaimed_74
          · by_cases k1_5 : kd = (5 : Int32)
            · refine lv_tableIn (tgt := 93) hx hb dX3_canBeClaimed_1 (by rw [k1_5]; decide) (by rw [k1_5]; decide) (by rw [k1_5]; rfl) (by decide) ?_
              refine lv_iload_n hx hb dX3_canBeClaimed_93 rfl (lv_at hl 1 rfl) ?_
              refine zq_cS (rest := []) ⟨hx, hb, hml, hown, hts⟩ (c_X3_isRun l D cI cZ cW cC p1) (va_cwS 1 hts gX3_canBeClaimed_X3_isRun rfl rfl rfl (by decide +kernel) ⟨Nat.le_of_ble_eq_true rfl, Nat.le_of_ble_eq_true rfl⟩) hK (fun k q h => by simp at h) rfl hl.1 rfl (Nat.le_of_ble_eq_true rfl) dX3_canBeClaimed_94 ⟨Nat.le_of_ble_eq_true rfl, Nat.le_of_ble_eq_true rfl⟩ (fun v hv => ?_)
              rcases hv with ⟨rfl, hyr⟩ | ⟨rfl, hyr⟩
              · refine W.eq (g2 := F0 m 97 ls [.int (1 : Int32)]) rfl ?_
                refine lv_if_eq (tgt := 111) hx hb dX3_canBeClaimed_97 (by decide) (fun c97 => absurd c97 (by decide)) (fun c97 => ?_)
                refine lv_iload_n hx hb dX3_canBeClaimed_100 rfl (lv_at hl 2 rfl) ?_
                refine zq_cS (rest := []) ⟨hx, hb, hml, hown, hts⟩ (c_X3_isWithinLimit l D cI cZ cW cC q1) (va_cwS 1 hts gX3_canBeClaimed_X3_isWithinLimit rfl rfl rfl (by decide +kernel) ⟨Nat.le_of_ble_eq_true rfl, Nat.le_of_ble_eq_true rfl⟩) hK (fun k q h => by simp at h) rfl hl.1 rfl (Nat.le_of_ble_eq_true rfl) dX3_canBeClaimed_101 ⟨Nat.le_of_ble_eq_true rfl, Nat.le_of_ble_eq_true rfl⟩ (fun v hv => ?_)
                rcases hv with ⟨rfl, hwq⟩ | ⟨rfl, hwq⟩
                · refine W.eq (g2 := F0 m 104 ls [.int (1 : Int32)]) rfl ?_
                  refine lv_if_eq (tgt := 111) hx hb dX3_canBeClaimed_104 (by decide) (fun c104 => absurd c104 (by decide)) (fun c104 => ?_)
                  refine lv_iconst (v := (1 : Int32)) hx hb dX3_canBeClaimed_107 (by decide) ?_
                  refine lv_goto (tgt := 112) hx hb dX3_canBeClaimed_108 (by decide) ?_
                  exact ret _ _ _ (Or.inr rfl) (Or.inl ⟨rfl, Or.inr (Or.inr (Or.inr (Or.inr (Or.inr (Or.inl ⟨k1_5, hyr, hwq⟩)))))⟩) dX3_canBeClaimed_112
                · refine W.eq (g2 := F0 m 104 ls [.int (0 : Int32)]) rfl ?_
                  refine lv_if_eq (tgt := 111) hx hb dX3_canBeClaimed_104 (by decide) (fun c104 => ?_) (fun c104 => absurd c104 (by decide))
                  refine lv_iconst (v := (0 : Int32)) hx hb dX3_canBeClaimed_111 (by decide) ?_
                  exact ret _ _ _ (Or.inl rfl) (Or.inr ⟨rfl, fun q => by rw [k1_5] at q; rcases q with z | z | z | z | z | z | z | z <;> first | exact absurd z (by decide) | exact absurd z.1 (by decide) | (exact hwq.elim (fun y => absurd z.2.2.1 (Int32.not_le.mpr y)) (fun y => absurd z.2.2.2 (Int32.not_le.mpr y))) | fail "open"⟩) dX3_canBeClaimed_112
              · refine W.eq (g2 := F0 m 97 ls [.int (0 : Int32)]) rfl ?_
                refine lv_if_eq (tgt := 111) hx hb dX3_canBeClaimed_97 (by decide) (fun c97 => ?_) (fun c97 => absurd c97 (by decide))
                refine lv_iconst (v := (0 : Int32)) hx hb dX3_canBeClaimed_111 (by decide) ?_
                exact ret _ _ _ (Or.inl rfl) (Or.inr ⟨rfl, fun q => by rw [k1_5] at q; rcases q with z | z | z | z | z | z | z | z <;> first | exact absurd z (by decide) | exact absurd z.1 (by decide) | (exact hyr z.2.1) | fail "open"⟩) dX3_canBeClaimed_112
            · by_cases k1_6 : kd = (6 : Int32)
              · refine lv_tableIn (tgt := 113) hx hb dX3_canBeClaimed_1 (by rw [k1_6]; decide) (by rw [k1_6]; decide) (by rw [k1_6]; rfl) (by decide) ?_
                refine lv_iload_n hx hb dX3_canBeClaimed_113 rfl (lv_at hl 1 rfl) ?_
                refine lv_if_lt (tgt := 127) hx hb dX3_canBeClaimed_114 (by decide) (fun c114 => ?_) (fun c114 => ?_)
                · refine lv_iconst (v := (0 : Int32)) hx hb dX3_canBeClaimed_127 (by decide) ?_
                  exact ret _ _ _ (Or.inl rfl) (Or.inr ⟨rfl, fun q => by rw [k1_6] at q; rcases q with z | z | z | z | z | z | z | z <;> first | exact absurd z (by decide) | exact absurd z.1 (by decide) | (exact absurd z.2 (zr_lo c114)) | fail "open"⟩) dX3_canBeClaimed_128
                · refine lv_iload_n hx hb dX3_canBeClaimed_117 rfl (lv_at hl 1 rfl) ?_
                  refine lv_bipush (v := (nI 16)) hx hb dX3_canBeClaimed_118 (by decide) ?_
                  refine lv_icmp_gt (tgt := 127) hx hb dX3_canBeClaimed_120 (by decide) (fun c120 => ?_) (fun c120 => ?_)
                  · refine lv_iconst (v := (0 : Int32)) hx hb dX3_canBeClaimed_127 (by decide) ?_
                    exact ret _ _ _ (Or.inl rfl) (Or.inr ⟨rfl, fun q => by rw [k1_6] at q; rcases q with z | z | z | z | z | z | z | z <;> first | exact absurd z (by decide) | exact absurd z.1 (by decide) | (exact absurd ((zr_le (n := 16)).mpr z.2).2 (Int32.not_le.mpr c120)) | fail "open"⟩) dX3_canBeClaimed_128
                  · refine lv_iconst (v := (1 : Int32)) hx hb dX3_canBeClaimed_123 (by decide) ?_
                    refine lv_goto (tgt := 128) hx hb dX3_canBeClaimed_124 (by decide) ?_
                    exact ret _ _ _ (Or.inr rfl) (Or.inl ⟨rfl, Or.inr (Or.inr (Or.inr (Or.inr (Or.inr (Or.inr (Or.inl ⟨k1_6, (zr_le (n := 16)).mp ⟨Int32.not_lt.mp c114, Int32.not_lt.mp c120⟩⟩))))))⟩) dX3_canBeClaimed_128
              · by_cases k1_7 : kd = (7 : Int32)
                · refine lv_tableIn (tgt := 129) hx hb dX3_canBeClaimed_1 (by rw [k1_7]; decide) (by rw [k1_7]; decide) (by rw [k1_7]; rfl) (by decide) ?_
                  refine lv_iload_n hx hb dX3_canBeClaimed_129 rfl (lv_at hl 1 rfl) ?_
                  refine zq_cS (rest := []) ⟨hx, hb, hml, hown, hts⟩ (c_X3_isFunction l D cI cZ cW cC p1) (va_cwS 1 hts gX3_canBeClaimed_X3_isFunction rfl rfl rfl (by decide +kernel) ⟨Nat.le_of_ble_eq_true rfl, Nat.le_of_ble_eq_true rfl⟩) hK (fun k q h => by simp at h) rfl hl.1 rfl (Nat.le_of_ble_eq_true rfl) dX3_canBeClaimed_130 ⟨Nat.le_of_ble_eq_true rfl, Nat.le_of_ble_eq_true rfl⟩ (fun v hv => ?_)
                  rcases hv with ⟨rfl, hyf⟩ | ⟨rfl, hyf⟩
                  · refine W.eq (g2 := F0 m 133 ls [.int (1 : Int32)]) rfl ?_
                    exact ret _ _ _ (Or.inr rfl) (Or.inl ⟨rfl, Or.inr (Or.inr (Or.inr (Or.inr (Or.inr (Or.inr (Or.inr ⟨k1_7, hyf⟩))))))⟩) dX3_canBeClaimed_133
                  · refine W.eq (g2 := F0 m 133 ls [.int (0 : Int32)]) rfl ?_
                    exact ret _ _ _ (Or.inl rfl) (Or.inr ⟨rfl, fun q => by rw [k1_7] at q; rcases q with z | z | z | z | z | z | z | z <;> first | exact absurd z (by decide) | exact absurd z.1 (by decide) | (exact hyf z.2) | fail "open"⟩) dX3_canBeClaimed_133
                · refine lv_tableOut (tgt := 134) hx hb dX3_canBeClaimed_1 (by have k1_0T := lv_neT k1_0 (a := 0) rfl; have k1_1T := lv_neT k1_1 (a := 1) rfl; have k1_2T := lv_neT k1_2 (a := 2) rfl; have k1_3T := lv_neT k1_3 (a := 3) rfl; have k1_4T := lv_neT k1_4 (a := 4) rfl; have k1_5T := lv_neT k1_5 (a := 5) rfl; have k1_6T := lv_neT k1_6 (a := 6) rfl; have k1_7T := lv_neT k1_7 (a := 7) rfl; omega) (by decide) ?_
                  refine lv_iconst (v := (0 : Int32)) hx hb dX3_canBeClaimed_134 (by decide) ?_
                  exact ret _ _ _ (Or.inl rfl) (Or.inr ⟨rfl, fun q => by rcases q with z | z | z | z | z | z | z | z <;> first | exact k1_0 z.1 | exact k1_1 z | exact k1_2 z | exact k1_3 z.1 | exact k1_4 z | exact k1_5 z.1 | exact k1_6 z.1 | exact k1_7 z.1 | fail "open"⟩) dX3_canBeClaimed_135
theorem w_X3_hasClaim__fieldLink_RX3_118_WordsBeside_Claim_function_I__d67073 : (.fieldLink RX3 118 "WordsBeside$Claim" "function" "I" : Cond) ∈ wsX3_hasClaim := by decide +kernel
theorem w_X3_hasClaim__fieldLink_RX3_121_WordsBeside_Claim_kind_I__be85f9 : (.fieldLink RX3 121 "WordsBeside$Claim" "kind" "I" : Cond) ∈ wsX3_hasClaim := by decide +kernel
theorem w_X3_hasClaim__fieldLink_RX3_36_WordsBeside_claims_LWordsBeside_Claim__842a06 : (.fieldLink RX3 36 "WordsBeside" "claims" "[LWordsBeside$Claim;" : Cond) ∈ wsX3_hasClaim := by decide +kernel
theorem w_X3_hasClaim__fieldLink_RX3_40_WordsBeside_came_I__48f8c3 : (.fieldLink RX3 40 "WordsBeside" "came" "I" : Cond) ∈ wsX3_hasClaim := by decide +kernel
theorem in_X3_hasClaim_X0 : ∀ w ∈ wsX00, w ∈ wsX3_hasClaim := fun _ h => List.mem_cons_of_mem _ (List.mem_append_right _ h)
theorem in_X3_hasClaim_X3 : ∀ w ∈ wsX30, w ∈ wsX3_hasClaim := fun _ h => List.mem_cons_of_mem _ (List.mem_append_left _ (List.mem_append_right _ h))
set_option maxHeartbeats 4000000 in
set_option maxRecDepth 100000 in
theorem c_X3_hasClaim (l : Launch) (D : va_G) (cI cZ cW cC : ClassId) (ad : Nat → Nat) (st ln N : Nat → Int32) (fs fc : Nat → Option Nat) (hm : Nat → Int32) (se kp cm : Int32) (PL : List Nat) (pf : Nat → va_E) (n : Nat) (hn : n ≤ 40) (en : cm = nI n) (co fo bo : Nat → Nat) (kF fF sF lh mF : Nat → Int32) (HC : zPC PL pf fc co fo bo kF fF sF lh mF n) (hfo : ∀ i, i < n → fo i < 6) (f : Nat) (hf : f < 6) (kx : Int32) (P0 : Nat → Bool) (hP0 : ∀ i, i < n → (((kx >>> (kF i &&& 31)) &&& 1) = 1 ↔ P0 i = true)) : zq_ro l D cI cZ cW cC yX3_hasClaim wsX3_hasClaim ({ frames := 0, cells := 0, slots := 0, locals := 0 } : Room) [.ref (ad 0), .int (nI f), .int kx] ((cX cI cW cC ad st ln N fs fc hm se kp cm) ++ va_pl PL pf) (fun v => v = some (.int (if 0 < fb_ct (zhas fo f P0) n then 1 else 0))) := by
  refine zq_roZ (own := RX3) (by decide) rfl rfl (Nat.le_of_ble_eq_true rfl) ?_
  intro p e s m below meth c Q ls hF hP hK hl ret
  obtain ⟨hx, hb, hml, hown, hts⟩ := hF
  have hl : lv_has ls 5 [(0, .ref (ad 0)), (1, .int (nI f)), (2, .int kx)] := hl
  refine lv_iconst (v := (nI 0)) hx hb dX3_hasClaim_0 (by decide) ?_
  refine lv_istore_n (lv' := [(3, .int (nI 0)), (0, .ref (ad 0)), (1, .int (nI f)), (2, .int kx)]) hx hb dX3_hasClaim_1 rfl hl (by decide) rfl (fun ls hl => ?_)
  have loop2 : ∀ (fu2 : Nat) (j : Nat) (ls : Array Slot), (n - j) < fu2 → (j ≤ n) → (∀ q, q < j → (zhas fo f P0) q = false) → lv_has ls 5 [(0, .ref (ad 0)), (1, .int (nI f)), (2, .int kx), (3, .int (nI j))] → W p l e ({ frames := 0, cells := 0, slots := 0, locals := 0 } : Room) s m ([.ref (ad 0), .int (nI f), .int kx] : List Value).toArray below meth c s.heap [] 0 0 Q (F0 m 2 ls []) := by
    intro fu2
    induction fu2 with
    | zero => intro _ _ hmu; exact absurd hmu (Nat.not_lt_zero _)
    | succ fu2 ih2 =>
      intro j ls hmu2 hj hno hl
      refine lv_iload_n hx hb dX3_hasClaim_2 rfl (lv_at hl 3 rfl) ?_
      refine lv_aload_n hx hb dX3_hasClaim_3 rfl (lv_at hl 0 rfl) ?_
      refine zq_get hx hb hts in_X3_hasClaim_X3 hown hK hP 0 rfl rfl 6 (by decide) (hts _ w_X3_hasClaim__fieldLink_RX3_40_WordsBeside_came_I__48f8c3) rfl dX3_hasClaim_4 ?_
      refine zq_te (y := (nI n)) en ?_
      refine lv_icmp_ge (tgt := 53) hx hb dX3_hasClaim_7 (by decide) (fun c7 => ?_) (fun c7 => ?_)
      · have h7 := zle c7
        refine lv_iconst (v := (0 : Int32)) hx hb dX3_hasClaim_53 (by decide) ?_
        exact ret _ _ _ (Or.inl rfl) (by rw [if_neg (by rw [fb_ct_zero.mpr (fun q hq => hno q (by omega))]; omega)]) dX3_hasClaim_54
      · have h7 := znle c7
        have hfj := hfo j (znle c7)
        refine lv_aload_n hx hb dX3_hasClaim_10 rfl (lv_at hl 0 rfl) ?_
        refine zq_get hx hb hts in_X3_hasClaim_X3 hown hK hP 0 rfl rfl 5 (by decide) (hts _ w_X3_hasClaim__fieldLink_RX3_36_WordsBeside_claims_LWordsBeside_Claim__842a06) rfl dX3_hasClaim_11 ?_
        refine lv_iload_n hx hb dX3_hasClaim_14 rfl (lv_at hl 3 rfl) ?_
        refine zq_aldC hx hb hK hP 7 rfl j rfl (by omega) (by decide) dX3_hasClaim_15 ?_
        rw [show (fc j) = some (co j) from (HC.1 j (by omega)).1]
        show W _ _ _ _ _ _ _ _ _ _ _ _ _ _ _ (F0 _ _ _ (.ref (co j) :: _))
        refine lv_astore (lv' := [(4, .ref (co j)), (0, .ref (ad 0)), (1, .int (nI f)), (2, .int kx), (3, .int (nI j))]) hx hb dX3_hasClaim_16 hl (by decide) rfl (fun ls hl => ?_)
        refine lv_aload hx hb dX3_hasClaim_18 (lv_at hl 0 rfl) ?_
        refine lv_ifnull hx hb dX3_hasClaim_20 ?_
        refine lv_aload hx hb dX3_hasClaim_23 (lv_at hl 0 rfl) ?_
        obtain ⟨kq, hq⟩ := zpl_at (X := (cX cI cW cC ad st ln N fs fc hm se kp cm)) (HC.1 j (by omega)).2.1 (HC.1 j (by omega)).2.2
        refine zq_get hx hb hts in_X3_hasClaim_X0 hown hK hP kq hq rfl 0 (by decide) (hts _ w_X3_hasClaim__fieldLink_RX3_118_WordsBeside_Claim_function_I__d67073) rfl dX3_hasClaim_25 ?_
        refine lv_iload_n hx hb dX3_hasClaim_28 rfl (lv_at hl 2 rfl) ?_
        refine lv_icmp_ne (tgt := 47) hx hb dX3_hasClaim_29 (by decide) (fun c29 => ?_) (fun c29 => ?_)
        · have h29 := zne c29
          skip
          refine lv_iinc (v := (nI (j + 1))) (lv' := [(3, .int (nI (j + 1))), (4, .ref (co j)), (0, .ref (ad 0)), (1, .int (nI f)), (2, .int kx)]) hx hb dX3_hasClaim_47 hl (k := 4) rfl ((nI_succ _).symm) (by decide) rfl (fun ls hl => ?_)
          refine lv_goto (tgt := 2) hx hb dX3_hasClaim_50 (by decide) ?_
          exact ih2 (j + 1) ls (by omega) (by omega) (lt_s hno (by simp [zhas, h29])) (lv_sub hl [2, 3, 4, 0] rfl)
        · have h29 := zeq c29
          refine lv_iload_n hx hb dX3_hasClaim_32 rfl (lv_at hl 3 rfl) ?_
          refine lv_aload hx hb dX3_hasClaim_33 (lv_at hl 0 rfl) ?_
          obtain ⟨kq, hq⟩ := zpl_at (X := (cX cI cW cC ad st ln N fs fc hm se kp cm)) (HC.1 j (by omega)).2.1 (HC.1 j (by omega)).2.2
          refine zq_get hx hb hts in_X3_hasClaim_X0 hown hK hP kq hq rfl 1 (by decide) (hts _ w_X3_hasClaim__fieldLink_RX3_121_WordsBeside_Claim_kind_I__be85f9) rfl dX3_hasClaim_35 ?_
          refine lv_ishr hx hb dX3_hasClaim_38 ?_
          refine lv_iconst (v := (1 : Int32)) hx hb dX3_hasClaim_39 (by decide) ?_
          refine lv_iand hx hb dX3_hasClaim_40 ?_
          refine lv_iconst (v := (1 : Int32)) hx hb dX3_hasClaim_41 (by decide) ?_
          refine lv_icmp_ne (tgt := 47) hx hb dX3_hasClaim_42 (by decide) (fun c42 => ?_) (fun c42 => ?_)
          · refine lv_iinc (v := (nI (j + 1))) (lv' := [(3, .int (nI (j + 1))), (4, .ref (co j)), (0, .ref (ad 0)), (1, .int (nI f)), (2, .int kx)]) hx hb dX3_hasClaim_47 hl (k := 4) rfl ((nI_succ _).symm) (by decide) rfl (fun ls hl => ?_)
            refine lv_goto (tgt := 2) hx hb dX3_hasClaim_50 (by decide) ?_
            exact ih2 (j + 1) ls (by omega) (by omega) (lt_s hno (by have h9 : P0 j = false := (by rcases hh : P0 j with _ | _; rfl; exact absurd ((hP0 j (by omega)).mpr hh) c42); simp [zhas, h9])) (lv_sub hl [2, 3, 4, 0] rfl)
          · refine lv_iconst (v := (1 : Int32)) hx hb dX3_hasClaim_45 (by decide) ?_
            exact ret _ _ _ (Or.inr rfl) (by rw [if_pos (fb_ct_pos.mpr ⟨j, by omega, by simp [zhas, h29, (hP0 j (by omega)).mp c42]⟩)]) dX3_hasClaim_46
  exact loop2 (n + 1) 0 ls (by omega) (by omega) (fun q hq => absurd hq (Nat.not_lt_zero q)) (lv_sub hl [1, 2, 3, 0] rfl)
theorem w_X3_howManyMarked__fieldLink_RX3_134_WordsBeside_Claim_marked_Z__c3d21a : (.fieldLink RX3 134 "WordsBeside$Claim" "marked" "Z" : Cond) ∈ wsX3_howManyMarked := by decide +kernel
theorem w_X3_howManyMarked__fieldLink_RX3_36_WordsBeside_claims_LWordsBeside_Claim__842a06 : (.fieldLink RX3 36 "WordsBeside" "claims" "[LWordsBeside$Claim;" : Cond) ∈ wsX3_howManyMarked := by decide +kernel
theorem w_X3_howManyMarked__fieldLink_RX3_40_WordsBeside_came_I__48f8c3 : (.fieldLink RX3 40 "WordsBeside" "came" "I" : Cond) ∈ wsX3_howManyMarked := by decide +kernel
theorem in_X3_howManyMarked_X0 : ∀ w ∈ wsX00, w ∈ wsX3_howManyMarked := fun _ h => List.mem_cons_of_mem _ (List.mem_append_right _ h)
theorem in_X3_howManyMarked_X3 : ∀ w ∈ wsX30, w ∈ wsX3_howManyMarked := fun _ h => List.mem_cons_of_mem _ (List.mem_append_left _ (List.mem_append_right _ h))
set_option maxHeartbeats 4000000 in
set_option maxRecDepth 100000 in
theorem c_X3_howManyMarked (l : Launch) (D : va_G) (cI cZ cW cC : ClassId) (ad : Nat → Nat) (st ln N : Nat → Int32) (fs fc : Nat → Option Nat) (hm : Nat → Int32) (se kp cm : Int32) (PL : List Nat) (pf : Nat → va_E) (n : Nat) (hn : n ≤ 40) (en : cm = nI n) (co fo bo : Nat → Nat) (kF fF sF lh mF : Nat → Int32) (HC : zPC PL pf fc co fo bo kF fF sF lh mF n) : zq_ro l D cI cZ cW cC yX3_howManyMarked wsX3_howManyMarked ({ frames := 0, cells := 0, slots := 0, locals := 0 } : Room) [.ref (ad 0)] ((cX cI cW cC ad st ln N fs fc hm se kp cm) ++ va_pl PL pf) (fun v => v = some (.int (nI (fb_ct (fun i => decide (¬ mF i = 0)) n)))) := by
  refine zq_roI (own := RX3) (by decide) rfl rfl (Nat.le_of_ble_eq_true rfl) ?_
  intro p e s m below meth c Q ls hF hP hK hl ret
  obtain ⟨hx, hb, hml, hown, hts⟩ := hF
  have hl : lv_has ls 4 [(0, .ref (ad 0))] := hl
  refine lv_iconst (v := (nI 0)) hx hb dX3_howManyMarked_0 (by decide) ?_
  refine lv_istore_n (lv' := [(1, .int (nI 0)), (0, .ref (ad 0))]) hx hb dX3_howManyMarked_1 rfl hl (by decide) rfl (fun ls hl => ?_)
  refine lv_iconst (v := (nI 0)) hx hb dX3_howManyMarked_2 (by decide) ?_
  refine lv_istore_n (lv' := [(2, .int (nI 0)), (1, .int (nI 0)), (0, .ref (ad 0))]) hx hb dX3_howManyMarked_3 rfl hl (by decide) rfl (fun ls hl => ?_)
  have loop4 : ∀ (fu4 : Nat) (j a : Nat) (ls : Array Slot), (n - j) < fu4 → (j ≤ n) → (a = fb_ct (fun i => decide (¬ mF i = 0)) j) → lv_has ls 4 [(0, .ref (ad 0)), (1, .int (nI a)), (2, .int (nI j))] → W p l e ({ frames := 0, cells := 0, slots := 0, locals := 0 } : Room) s m ([.ref (ad 0)] : List Value).toArray below meth c s.heap [] 0 0 Q (F0 m 4 ls []) := by
    intro fu4
    induction fu4 with
    | zero => intro _ _ _ hmu; exact absurd hmu (Nat.not_lt_zero _)
    | succ fu4 ih4 =>
      intro j a ls hmu4 hj ea hl
      refine lv_iload_n hx hb dX3_howManyMarked_4 rfl (lv_at hl 2 rfl) ?_
      refine lv_aload_n hx hb dX3_howManyMarked_5 rfl (lv_at hl 0 rfl) ?_
      refine zq_get hx hb hts in_X3_howManyMarked_X3 hown hK hP 0 rfl rfl 6 (by decide) (hts _ w_X3_howManyMarked__fieldLink_RX3_40_WordsBeside_came_I__48f8c3) rfl dX3_howManyMarked_6 ?_
      refine zq_te (y := (nI n)) en ?_
      refine lv_icmp_ge (tgt := 39) hx hb dX3_howManyMarked_9 (by decide) (fun c9 => ?_) (fun c9 => ?_)
      · have h9 := zle c9
        refine lv_iload_n hx hb dX3_howManyMarked_39 rfl (lv_at hl 1 rfl) ?_
        exact ret _ _ _ (by rw [ea, show j = n by omega]) dX3_howManyMarked_40
      · have h9 := znle c9
        refine lv_aload_n hx hb dX3_howManyMarked_12 rfl (lv_at hl 0 rfl) ?_
        refine zq_get hx hb hts in_X3_howManyMarked_X3 hown hK hP 0 rfl rfl 5 (by decide) (hts _ w_X3_howManyMarked__fieldLink_RX3_36_WordsBeside_claims_LWordsBeside_Claim__842a06) rfl dX3_howManyMarked_13 ?_
        refine lv_iload_n hx hb dX3_howManyMarked_16 rfl (lv_at hl 2 rfl) ?_
        refine zq_aldC hx hb hK hP 7 rfl j rfl (by omega) (by decide) dX3_howManyMarked_17 ?_
        rw [show (fc j) = some (co j) from (HC.1 j (by omega)).1]
        show W _ _ _ _ _ _ _ _ _ _ _ _ _ _ _ (F0 _ _ _ (.ref (co j) :: _))
        refine lv_astore_n (lv' := [(3, .ref (co j)), (0, .ref (ad 0)), (1, .int (nI a)), (2, .int (nI j))]) hx hb dX3_howManyMarked_18 rfl hl (by decide) rfl (fun ls hl => ?_)
        refine lv_aload_n hx hb dX3_howManyMarked_19 rfl (lv_at hl 0 rfl) ?_
        refine lv_ifnull hx hb dX3_howManyMarked_20 ?_
        refine lv_aload_n hx hb dX3_howManyMarked_23 rfl (lv_at hl 0 rfl) ?_
        obtain ⟨kq, hq⟩ := zpl_at (X := (cX cI cW cC ad st ln N fs fc hm se kp cm)) (HC.1 j (by omega)).2.1 (HC.1 j (by omega)).2.2
        refine zq_get hx hb hts in_X3_howManyMarked_X0 hown hK hP kq hq rfl 6 (by decide) (hts _ w_X3_howManyMarked__fieldLink_RX3_134_WordsBeside_Claim_marked_Z__c3d21a) rfl dX3_howManyMarked_24 ?_
        refine lv_if_eq (tgt := 33) hx hb dX3_howManyMarked_27 (by decide) (fun c27 => ?_) (fun c27 => ?_)
        · refine lv_iinc (v := (nI (j + 1))) (lv' := [(2, .int (nI (j + 1))), (3, .ref (co j)), (0, .ref (ad 0)), (1, .int (nI a))]) hx hb dX3_howManyMarked_33 hl (k := 3) rfl ((nI_succ _).symm) (by decide) rfl (fun ls hl => ?_)
          refine lv_goto (tgt := 4) hx hb dX3_howManyMarked_36 (by decide) ?_
          exact ih4 (j + 1) a ls (by omega) (by omega) (by rw [fb_ct_succ, ← ea, if_neg (by simp [c27]), Nat.add_zero]) (lv_sub hl [2, 3, 0] rfl)
        · refine lv_iinc (v := (nI (a + 1))) (lv' := [(1, .int (nI (a + 1))), (3, .ref (co j)), (0, .ref (ad 0)), (2, .int (nI j))]) hx hb dX3_howManyMarked_30 hl (k := 2) rfl ((nI_succ _).symm) (by decide) rfl (fun ls hl => ?_)
          refine lv_iinc (v := (nI (j + 1))) (lv' := [(2, .int (nI (j + 1))), (1, .int (nI (a + 1))), (3, .ref (co j)), (0, .ref (ad 0))]) hx hb dX3_howManyMarked_33 hl (k := 3) rfl ((nI_succ _).symm) (by decide) rfl (fun ls hl => ?_)
          refine lv_goto (tgt := 4) hx hb dX3_howManyMarked_36 (by decide) ?_
          exact ih4 (j + 1) (a + 1) ls (by omega) (by omega) (by rw [fb_ct_succ, ← ea, if_pos (by simp [c27])]) (lv_sub hl [3, 1, 0] rfl)
  exact loop4 (n + 1) 0 0 ls (by omega) (by omega) rfl (lv_sub hl [2, 1, 0] rfl)
theorem w_X3_listedAheadOf__fieldLink_RX3_40_WordsBeside_came_I__48f8c3 : (.fieldLink RX3 40 "WordsBeside" "came" "I" : Cond) ∈ wsX3_listedAheadOf := by decide +kernel
theorem w_X3_listedAheadOf__fieldLink_RX3_43_WordsBeside_listedHarms_I__517f26 : (.fieldLink RX3 43 "WordsBeside" "listedHarms" "[I" : Cond) ∈ wsX3_listedAheadOf := by decide +kernel
theorem in_X3_listedAheadOf_X3 : ∀ w ∈ wsX30, w ∈ wsX3_listedAheadOf := fun _ h => List.mem_cons_of_mem _ (List.mem_append_right _ h)
set_option maxHeartbeats 4000000 in
set_option maxRecDepth 100000 in
theorem c_X3_listedAheadOf (l : Launch) (D : va_G) (cI cZ cW cC : ClassId) (ad : Nat → Nat) (st ln N : Nat → Int32) (fs fc : Nat → Option Nat) (hm : Nat → Int32) (se kp cm : Int32) (PL : List Nat) (pf : Nat → va_E) (n : Nat) (hn : n ≤ 40) (en : cm = nI n) (har : Nat → Nat) (hh : ∀ q, q < n → hm q = nI (har q)) (hle : ∀ q, har q ≤ 256) (i : Nat) (hi : i < n) : zq_ro l D cI cZ cW cC yX3_listedAheadOf wsX3_listedAheadOf ({ frames := 0, cells := 0, slots := 0, locals := 0 } : Room) [.ref (ad 0), .int (nI i)] ((cX cI cW cC ad st ln N fs fc hm se kp cm) ++ va_pl PL pf) (fun v => v = some (.int (nI (fb_ct (zah har i) n)))) := by
  refine zq_roI (own := RX3) (by decide) rfl rfl (Nat.le_of_ble_eq_true rfl) ?_
  intro p e s m below meth c Q ls hF hP hK hl ret
  obtain ⟨hx, hb, hml, hown, hts⟩ := hF
  have hl : lv_has ls 5 [(0, .ref (ad 0)), (1, .int (nI i))] := hl
  have hlei := hle i
  refine lv_aload_n hx hb dX3_listedAheadOf_0 rfl (lv_at hl 0 rfl) ?_
  refine zq_get hx hb hts in_X3_listedAheadOf_X3 hown hK hP 0 rfl rfl 7 (by decide) (hts _ w_X3_listedAheadOf__fieldLink_RX3_43_WordsBeside_listedHarms_I__517f26) rfl dX3_listedAheadOf_1 ?_
  refine lv_iload_n hx hb dX3_listedAheadOf_4 rfl (lv_at hl 1 rfl) ?_
  refine zq_ild hx hb hK hP 8 rfl i rfl (by omega) (by decide) dX3_listedAheadOf_5 ?_
  refine zq_te (y := (nI (har i))) (hh i hi) ?_
  refine lv_istore_n (lv' := [(2, .int (nI (har i))), (0, .ref (ad 0)), (1, .int (nI i))]) hx hb dX3_listedAheadOf_6 rfl hl (by decide) rfl (fun ls hl => ?_)
  refine lv_iconst (v := (nI 0)) hx hb dX3_listedAheadOf_7 (by decide) ?_
  refine lv_istore_n (lv' := [(3, .int (nI 0)), (2, .int (nI (har i))), (0, .ref (ad 0)), (1, .int (nI i))]) hx hb dX3_listedAheadOf_8 rfl hl (by decide) rfl (fun ls hl => ?_)
  refine lv_iconst (v := (nI 0)) hx hb dX3_listedAheadOf_9 (by decide) ?_
  refine lv_istore (lv' := [(4, .int (nI 0)), (3, .int (nI 0)), (2, .int (nI (har i))), (0, .ref (ad 0)), (1, .int (nI i))]) hx hb dX3_listedAheadOf_10 hl (by decide) rfl (fun ls hl => ?_)
  have loop12 : ∀ (fu12 : Nat) (j a : Nat) (ls : Array Slot), (n - j) < fu12 → (j ≤ n) → (a = fb_ct (zah har i) j) → lv_has ls 5 [(0, .ref (ad 0)), (1, .int (nI i)), (2, .int (nI (har i))), (3, .int (nI a)), (4, .int (nI j))] → W p l e ({ frames := 0, cells := 0, slots := 0, locals := 0 } : Room) s m ([.ref (ad 0), .int (nI i)] : List Value).toArray below meth c s.heap [] 0 0 Q (F0 m 12 ls []) := by
    intro fu12
    induction fu12 with
    | zero => intro _ _ _ hmu; exact absurd hmu (Nat.not_lt_zero _)
    | succ fu12 ih12 =>
      intro j a ls hmu12 hj ea hl
      refine lv_iload hx hb dX3_listedAheadOf_12 (lv_at hl 4 rfl) ?_
      refine lv_aload_n hx hb dX3_listedAheadOf_14 rfl (lv_at hl 0 rfl) ?_
      refine zq_get hx hb hts in_X3_listedAheadOf_X3 hown hK hP 0 rfl rfl 6 (by decide) (hts _ w_X3_listedAheadOf__fieldLink_RX3_40_WordsBeside_came_I__48f8c3) rfl dX3_listedAheadOf_15 ?_
      refine zq_te (y := (nI n)) en ?_
      refine lv_icmp_ge (tgt := 58) hx hb dX3_listedAheadOf_18 (by decide) (fun c18 => ?_) (fun c18 => ?_)
      · have h18 := zle c18
        refine lv_iload_n hx hb dX3_listedAheadOf_58 rfl (lv_at hl 3 rfl) ?_
        exact ret _ _ _ (by rw [ea, show j = n by omega]) dX3_listedAheadOf_59
      · have h18 := znle c18
        have hlej := hle j
        refine lv_aload_n hx hb dX3_listedAheadOf_21 rfl (lv_at hl 0 rfl) ?_
        refine zq_get hx hb hts in_X3_listedAheadOf_X3 hown hK hP 0 rfl rfl 7 (by decide) (hts _ w_X3_listedAheadOf__fieldLink_RX3_43_WordsBeside_listedHarms_I__517f26) rfl dX3_listedAheadOf_22 ?_
        refine lv_iload hx hb dX3_listedAheadOf_25 (lv_at hl 4 rfl) ?_
        refine zq_ild hx hb hK hP 8 rfl j rfl (by omega) (by decide) dX3_listedAheadOf_27 ?_
        refine zq_te (y := (nI (har j))) (hh j (by omega)) ?_
        refine lv_iload_n hx hb dX3_listedAheadOf_28 rfl (lv_at hl 2 rfl) ?_
        refine lv_icmp_gt (tgt := 49) hx hb dX3_listedAheadOf_29 (by decide) (fun c29 => ?_) (fun c29 => ?_)
        · have h29 := zlt c29
          refine lv_iinc (v := (nI (a + 1))) (lv' := [(3, .int (nI (a + 1))), (0, .ref (ad 0)), (1, .int (nI i)), (2, .int (nI (har i))), (4, .int (nI j))]) hx hb dX3_listedAheadOf_49 hl (k := 3) rfl ((nI_succ _).symm) (by decide) rfl (fun ls hl => ?_)
          refine lv_iinc (v := (nI (j + 1))) (lv' := [(4, .int (nI (j + 1))), (3, .int (nI (a + 1))), (0, .ref (ad 0)), (1, .int (nI i)), (2, .int (nI (har i)))]) hx hb dX3_listedAheadOf_52 hl (k := 4) rfl ((nI_succ _).symm) (by decide) rfl (fun ls hl => ?_)
          refine lv_goto (tgt := 12) hx hb dX3_listedAheadOf_55 (by decide) ?_
          exact ih12 (j + 1) (a + 1) ls (by omega) (by omega) (by rw [fb_ct_succ, ← ea, if_pos (by simp [zah]; omega)]) (lv_sub hl [2, 3, 4, 1, 0] rfl)
        · have h29 := znlt c29
          refine lv_aload_n hx hb dX3_listedAheadOf_32 rfl (lv_at hl 0 rfl) ?_
          refine zq_get hx hb hts in_X3_listedAheadOf_X3 hown hK hP 0 rfl rfl 7 (by decide) (hts _ w_X3_listedAheadOf__fieldLink_RX3_43_WordsBeside_listedHarms_I__517f26) rfl dX3_listedAheadOf_33 ?_
          refine lv_iload hx hb dX3_listedAheadOf_36 (lv_at hl 4 rfl) ?_
          refine zq_ild hx hb hK hP 8 rfl j rfl (by omega) (by decide) dX3_listedAheadOf_38 ?_
          refine zq_te (y := (nI (har j))) (hh j (by omega)) ?_
          refine lv_iload_n hx hb dX3_listedAheadOf_39 rfl (lv_at hl 2 rfl) ?_
          refine lv_icmp_ne (tgt := 52) hx hb dX3_listedAheadOf_40 (by decide) (fun c40 => ?_) (fun c40 => ?_)
          · have h40 := zne c40
            refine lv_iinc (v := (nI (j + 1))) (lv' := [(4, .int (nI (j + 1))), (0, .ref (ad 0)), (1, .int (nI i)), (2, .int (nI (har i))), (3, .int (nI a))]) hx hb dX3_listedAheadOf_52 hl (k := 4) rfl ((nI_succ _).symm) (by decide) rfl (fun ls hl => ?_)
            refine lv_goto (tgt := 12) hx hb dX3_listedAheadOf_55 (by decide) ?_
            exact ih12 (j + 1) a ls (by omega) (by omega) (by rw [fb_ct_succ, ← ea, if_neg (by simp [zah]; omega), Nat.add_zero]) (lv_sub hl [1, 2, 3, 4, 0] rfl)
          · have h40 := zeq c40
            refine lv_iload hx hb dX3_listedAheadOf_43 (lv_at hl 4 rfl) ?_
            refine lv_iload_n hx hb dX3_listedAheadOf_45 rfl (lv_at hl 1 rfl) ?_
            refine lv_icmp_ge (tgt := 52) hx hb dX3_listedAheadOf_46 (by decide) (fun c46 => ?_) (fun c46 => ?_)
            · have h46 := zle c46
              refine lv_iinc (v := (nI (j + 1))) (lv' := [(4, .int (nI (j + 1))), (0, .ref (ad 0)), (1, .int (nI i)), (2, .int (nI (har i))), (3, .int (nI a))]) hx hb dX3_listedAheadOf_52 hl (k := 4) rfl ((nI_succ _).symm) (by decide) rfl (fun ls hl => ?_)
              refine lv_goto (tgt := 12) hx hb dX3_listedAheadOf_55 (by decide) ?_
              exact ih12 (j + 1) a ls (by omega) (by omega) (by rw [fb_ct_succ, ← ea, if_neg (by simp [zah]; omega), Nat.add_zero]) (lv_sub hl [1, 2, 3, 4, 0] rfl)
            · have h46 := znle c46
              refine lv_iinc (v := (nI (a + 1))) (lv' := [(3, .int (nI (a + 1))), (0, .ref (ad 0)), (1, .int (nI i)), (2, .int (nI (har i))), (4, .int (nI j))]) hx hb dX3_listedAheadOf_49 hl (k := 3) rfl ((nI_succ _).symm) (by decide) rfl (fun ls hl => ?_)
              refine lv_iinc (v := (nI (j + 1))) (lv' := [(4, .int (nI (j + 1))), (3, .int (nI (a + 1))), (0, .ref (ad 0)), (1, .int (nI i)), (2, .int (nI (har i)))]) hx hb dX3_listedAheadOf_52 hl (k := 4) rfl ((nI_succ _).symm) (by decide) rfl (fun ls hl => ?_)
              refine lv_goto (tgt := 12) hx hb dX3_listedAheadOf_55 (by decide) ?_
              exact ih12 (j + 1) (a + 1) ls (by omega) (by omega) (by rw [fb_ct_succ, ← ea, if_pos (by simp [zah]; omega)]) (lv_sub hl [2, 3, 4, 1, 0] rfl)
  exact loop12 (n + 1) 0 0 ls (by omega) (by omega) rfl (lv_sub hl [3, 4, 2, 1, 0] rfl)
