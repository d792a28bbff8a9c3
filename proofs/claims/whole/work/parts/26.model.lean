/-! the reference: keep, claim, mark, its start -/
theorem zG_upd_ot {gv : Nat → Int32} {t i q j : Nat} {x : Int32} (h : q ≠ t) (hi : i < 1536) (hj : j < 1536) : zG (upd gv (1536 * t + j) x) q i = zG gv q i := pk_un (by omega)
theorem zr_1000 {p : Int32} : ((1 : Int32) ≤ p ∧ p ≤ nI 1000) ↔ ((1 : Int32) ≤ p ∧ p ≤ 1000) := Iff.rfl

theorem w_X4_keep__fieldLink_RX4_17_WordsBesideModel_gives_I__d93a8a : (.fieldLink RX4 17 "WordsBesideModel" "gives" "[I" : Cond) ∈ wsX4_keep := by decide +kernel
theorem w_X4_keep__fieldLink_RX4_75_WordsBesideModel_kept_I__b97d2f : (.fieldLink RX4 75 "WordsBesideModel" "kept" "I" : Cond) ∈ wsX4_keep := by decide +kernel
theorem in_X4_keep_X4 : ∀ w ∈ wsX40, w ∈ wsX4_keep := fun _ h => List.mem_cons_of_mem _ (List.mem_append_right _ h)
set_option maxHeartbeats 4000000 in
set_option maxRecDepth 100000 in
theorem c_X4_keep (l : Launch) (D : va_G) (cI cZ cW cC : ClassId) (ad : Nat → Nat) (ln st gv oF kF fF sF bF mF hF : Nat → Int32) (kp cm m1 m2 : Int32) (k : Nat) (hk : k ≤ 30) (ek : kp = nI k) (sz : Nat) : zq_mu l D cI cZ cW cC yX4_keep wsX4_keep ({ frames := 2, cells := 0, slots := 0, locals := 45 } : Room) [.ref (ad 0)] (mW cI cZ ad ln st gv oF kF fF sF bF mF hF kp cm m1 m2) sz (fun v w1 => (k < 30 ∧ v = some (.int (nI (k + 1))) ∧ ∃ g2 : Nat → Int32, w1 = (mW cI cZ ad ln st g2 oF kF fF sF bF mF hF (nI (k + 1)) cm m1 m2) ∧ (∀ j, j < 1536 → zG g2 (k + 1) j = zG gv 31 j) ∧ ∀ i j, i ≠ k + 1 → i < 32 → j < 1536 → zG g2 i j = zG gv i j) ∨ (k = 30 ∧ v = some (.int (-1)) ∧ w1 = (mW cI cZ ad ln st gv oF kF fF sF bF mF hF (nI k) cm m1 m2))) 0 0 := by
  refine zq_muI (own := RX4) (by decide) rfl rfl (Nat.le_of_ble_eq_true rfl) ?_
  intro p e s m below meth c Q A ls hsz hF hin hA hP hK hD hS hl ret
  obtain ⟨hx, hb, hml, hown, hts⟩ := hF
  have hl : lv_has ls 3 [(0, .ref (ad 0))] := hl
  subst ek
  refine lv_aload_n hx hb dX4_keep_0 rfl (lv_at hl 0 rfl) ?_
  refine zq_get hx hb hts in_X4_keep_X4 hown hK hP 0 rfl rfl 2 (by decide) (hts _ w_X4_keep__fieldLink_RX4_75_WordsBesideModel_kept_I__b97d2f) rfl dX4_keep_1 ?_
  refine lv_bipush (v := (nI 30)) hx hb dX4_keep_4 (by decide) ?_
  refine lv_icmp_ne (tgt := 11) hx hb dX4_keep_6 (by decide) (fun c6 => ?_) (fun c6 => ?_)
  · have h6 := zne c6
    refine lv_aload_n hx hb dX4_keep_11 rfl (lv_at hl 0 rfl) ?_
    refine lv_dup hx hb dX4_keep_12 rfl ?_
    refine zq_get hx hb hts in_X4_keep_X4 hown hK hP 0 rfl rfl 2 (by decide) (hts _ w_X4_keep__fieldLink_RX4_75_WordsBesideModel_kept_I__b97d2f) rfl dX4_keep_13 ?_
    refine lv_iconst (v := (nI 1)) hx hb dX4_keep_16 (by decide) ?_
    refine lv_iadd hx hb dX4_keep_17 ?_
    refine zq_te (y := (nI (k + 1))) (nI_add _ _) ?_
    refine zq_put hx hb hts in_X4_keep_X4 tyX4 tyX4_ok nmX4 hown hK hP hD hS 0 rfl rfl 2 (by decide) (hts _ w_X4_keep__fieldLink_RX4_75_WordsBesideModel_kept_I__b97d2f) rfl rfl rfl (Nat.le_of_ble_eq_true rfl) dX4_keep_18 (fun H locs hP hD hS => ?_)
    have hP : va_P D vwCl (mW cI cZ ad ln st gv oF kF fF sF bF mF hF (nI (k + 1)) cm m1 m2) H := hP
    have hD : va_D A (mW cI cZ ad ln st gv oF kF fF sF bF mF hF (nI (k + 1)) cm m1 m2) := hD
    refine lv_iconst (v := (0 : Int32)) hx hb dX4_keep_21 (by decide) ?_
    refine lv_istore_n (lv' := [(1, .int (nI 0)), (0, .ref (ad 0))]) hx hb dX4_keep_22 rfl hl (by decide) rfl (fun ls hl => ?_)
    have loop23 : ∀ (fu23 : Nat) (a : Nat) (gk : Nat → Int32) (H : Heap) (locs : List Loc) (ls : Array Slot), (6 - a) < fu23 → (a ≤ 6) → (∀ j, j < 256 * a → zG gk (k + 1) j = zG gv 31 j) → (∀ i j, i ≠ k + 1 → i < 32 → j < 1536 → zG gk i j = zG gv i j) → va_P D vwCl (mW cI cZ ad ln st gk oF kF fF sF bF mF hF (nI (k + 1)) cm m1 m2) H → va_D A (mW cI cZ ad ln st gk oF kF fF sF bF mF hF (nI (k + 1)) cm m1 m2) → va_S A s.heap H locs → lv_has ls 3 [(0, .ref (ad 0)), (1, .int (nI a))] → W p l e ({ frames := 2, cells := 0, slots := 0, locals := 45 } : Room) s m ([.ref (ad 0)] : List Value).toArray below meth c H locs 0 0 Q (F0 m 23 ls []) := by
      intro fu23
      induction fu23 with
      | zero => intro _ _ _ _ _ hmu; exact absurd hmu (Nat.not_lt_zero _)
      | succ fu23 ih23 =>
        intro a gk H locs ls hmu23 ha hk3 hk4 hP hD hS hl
        refine lv_iload_n hx hb dX4_keep_23 rfl (lv_at hl 1 rfl) ?_
        refine lv_bipush (v := (nI 6)) hx hb dX4_keep_24 (by decide) ?_
        refine lv_icmp_ge (tgt := 72) hx hb dX4_keep_26 (by decide) (fun c26 => ?_) (fun c26 => ?_)
        · have h26 := zle c26
          refine lv_aload_n hx hb dX4_keep_72 rfl (lv_at hl 0 rfl) ?_
          refine zq_get hx hb hts in_X4_keep_X4 hown hK hP 0 rfl rfl 2 (by decide) (hts _ w_X4_keep__fieldLink_RX4_75_WordsBesideModel_kept_I__b97d2f) rfl dX4_keep_73 ?_
          exact ret _ _ _ _ _ _ (Or.inl ⟨by omega, rfl, gk, rfl, fun j hj => hk3 j (by omega), hk4⟩) hP hD hS dX4_keep_76
        · have h26 := znle c26
          refine lv_iconst (v := (nI 0)) hx hb dX4_keep_29 (by decide) ?_
          refine lv_istore_n (lv' := [(2, .int (nI 0)), (0, .ref (ad 0)), (1, .int (nI a))]) hx hb dX4_keep_30 rfl hl (by decide) rfl (fun ls hl => ?_)
          have loop31 : ∀ (fu31 : Nat) (r : Nat) (gi : Nat → Int32) (H : Heap) (locs : List Loc) (ls : Array Slot), (256 - r) < fu31 → (r ≤ 256) → (∀ j, j < 256 * a + r → zG gi (k + 1) j = zG gv 31 j) → (∀ i j, i ≠ k + 1 → i < 32 → j < 1536 → zG gi i j = zG gv i j) → va_P D vwCl (mW cI cZ ad ln st gi oF kF fF sF bF mF hF (nI (k + 1)) cm m1 m2) H → va_D A (mW cI cZ ad ln st gi oF kF fF sF bF mF hF (nI (k + 1)) cm m1 m2) → va_S A s.heap H locs → lv_has ls 3 [(0, .ref (ad 0)), (1, .int (nI a)), (2, .int (nI r))] → W p l e ({ frames := 2, cells := 0, slots := 0, locals := 45 } : Room) s m ([.ref (ad 0)] : List Value).toArray below meth c H locs 0 0 Q (F0 m 31 ls []) := by
            intro fu31
            induction fu31 with
            | zero => intro _ _ _ _ _ hmu; exact absurd hmu (Nat.not_lt_zero _)
            | succ fu31 ih31 =>
              intro r gi H locs ls hmu31 hr hj3 hj4 hP hD hS hl
              refine lv_iload_n hx hb dX4_keep_31 rfl (lv_at hl 2 rfl) ?_
              refine lv_sipush (v := (nI 256)) hx hb dX4_keep_32 (by decide) ?_
              refine lv_icmp_ge (tgt := 66) hx hb dX4_keep_35 (by decide) (fun c35 => ?_) (fun c35 => ?_)
              · have h35 := zle c35
                refine lv_iinc (v := (nI (a + 1))) (lv' := [(1, .int (nI (a + 1))), (0, .ref (ad 0)), (2, .int (nI r))]) hx hb dX4_keep_66 hl (k := 1) rfl ((nI_succ _).symm) (by decide) rfl (fun ls hl => ?_)
                refine lv_goto (tgt := 23) hx hb dX4_keep_69 (by decide) ?_
                exact ih23 (a + 1) gi _ _ ls (by omega) (by omega) (fun j hj => hj3 j (by omega)) hj4 hP hD hS (lv_sub hl [1, 0] rfl)
              · have h35 := znle c35
                refine lv_aload_n hx hb dX4_keep_38 rfl (lv_at hl 0 rfl) ?_
                refine zq_get hx hb hts in_X4_keep_X4 hown hK hP 0 rfl rfl 3 (by decide) (hts _ w_X4_keep__fieldLink_RX4_17_WordsBesideModel_gives_I__d93a8a) rfl dX4_keep_39 ?_
                refine lv_aload_n hx hb dX4_keep_42 rfl (lv_at hl 0 rfl) ?_
                refine zq_get hx hb hts in_X4_keep_X4 hown hK hP 0 rfl rfl 2 (by decide) (hts _ w_X4_keep__fieldLink_RX4_75_WordsBesideModel_kept_I__b97d2f) rfl dX4_keep_43 ?_
                refine lv_iload_n hx hb dX4_keep_46 rfl (lv_at hl 1 rfl) ?_
                refine lv_iload_n hx hb dX4_keep_47 rfl (lv_at hl 2 rfl) ?_
                refine zq_cS (rest := [.ref (ad 3)]) ⟨hx, hb, hml, hown, hts⟩ (c_X4_at l D cI cZ cW cC (k + 1) a r) (va_cwS 3 hts gX4_keep_X4_at rfl rfl rfl (by decide +kernel) ⟨Nat.le_of_ble_eq_true rfl, Nat.le_of_ble_eq_true rfl⟩) hK (fun k q h => by simp at h) rfl hl.1 rfl (Nat.le_of_ble_eq_true rfl) dX4_keep_48 ⟨Nat.le_of_ble_eq_true rfl, Nat.le_of_ble_eq_true rfl⟩ (fun v hv => ?_)
                obtain rfl := hv
                refine W.eq (g2 := F0 m 51 ls [.int (nI (1536 * (k + 1) + (256 * a + r))), .ref (ad 3)]) rfl ?_
                refine lv_aload_n hx hb dX4_keep_51 rfl (lv_at hl 0 rfl) ?_
                refine lv_bipush (v := (nI 31)) hx hb dX4_keep_52 (by decide) ?_
                refine lv_iload_n hx hb dX4_keep_54 rfl (lv_at hl 1 rfl) ?_
                refine lv_iload_n hx hb dX4_keep_55 rfl (lv_at hl 2 rfl) ?_
                refine zq_cV (rest := [.int (nI (1536 * (k + 1) + (256 * a + r))), .ref (ad 3)]) ⟨hx, hb, hml, hown, hts⟩ (c_X4_give l D cI cZ cW cC ad ln st gi oF kF fF sF bF mF hF (nI (k + 1)) cm m1 m2 31 a r (by omega) (by omega) (by omega)) (cwV 3 hts gX4_keep_X4_give rfl rfl rfl (by decide +kernel) ⟨Nat.le_of_ble_eq_true rfl, Nat.le_of_ble_eq_true rfl⟩) hK hP 4 0 rfl rfl rfl hl.1 rfl (Nat.le_of_ble_eq_true rfl) dX4_keep_56 ⟨Nat.le_of_ble_eq_true rfl, Nat.le_of_ble_eq_true rfl⟩ (fun v hv => ?_)
                obtain rfl := hv
                refine W.eq (g2 := F0 m 59 ls [.int (zG gi 31 (256 * a + r)), .int (nI (1536 * (k + 1) + (256 * a + r))), .ref (ad 3)]) rfl ?_
                refine zq_ist hx hb hK hP hD hS 3 rfl (1536 * (k + 1) + (256 * a + r)) rfl (by omega) (by decide) dX4_keep_59 (fun H locs hP hD hS => ?_)
                have hP : va_P D vwCl (mW cI cZ ad ln st (upd gi (1536 * (k + 1) + (256 * a + r)) (zG gi 31 (256 * a + r))) oF kF fF sF bF mF hF (nI (k + 1)) cm m1 m2) H := hP
                have hD : va_D A (mW cI cZ ad ln st (upd gi (1536 * (k + 1) + (256 * a + r)) (zG gi 31 (256 * a + r))) oF kF fF sF bF mF hF (nI (k + 1)) cm m1 m2) := hD
                refine lv_iinc (v := (nI (r + 1))) (lv' := [(2, .int (nI (r + 1))), (0, .ref (ad 0)), (1, .int (nI a))]) hx hb dX4_keep_60 hl (k := 2) rfl ((nI_succ _).symm) (by decide) rfl (fun ls hl => ?_)
                refine lv_goto (tgt := 31) hx hb dX4_keep_63 (by decide) ?_
                exact ih31 (r + 1) (upd gi (1536 * (k + 1) + (256 * a + r)) (zG gi 31 (256 * a + r))) _ _ ls (by omega) (by omega) (fun j hj => by
                              by_cases e : j = 256 * a + r
                              · subst e; rw [zG_upd_in]; exact hj4 31 _ (by omega) (by omega) (by omega)
                              · rw [zG_upd_ne e]; exact hj3 j (by omega)) (fun i j h1 h2 h3 => by rw [zG_upd_ot h1 h3 (by omega)]; exact hj4 i j h1 h2 h3) hP hD hS (lv_sub hl [1, 2, 0] rfl)
          exact loop31 (256 + 1) 0 gk _ _ ls (by omega) (by omega) (fun j hj => hk3 j (by omega)) hk4 hP hD hS (lv_sub hl [1, 2, 0] rfl)
    exact loop23 (6 + 1) 0 gv _ _ ls (by omega) (by omega) (fun j hj => absurd hj (by omega)) (fun _ _ _ _ _ => rfl) hP hD hS (lv_sub hl [1, 0] rfl)
  · have h6 := zeq c6
    refine lv_iconst (v := (-1 : Int32)) hx hb dX4_keep_9 (by decide) ?_
    exact ret _ _ _ _ _ _ (Or.inr ⟨h6, rfl, rfl⟩) hP hD hS dX4_keep_10
theorem w_X4_claim__constant_RX4_82_1000000__0118b9 : (.constant RX4 82 (-1000000) : Cond) ∈ wsX4_claim := by decide +kernel
theorem w_X4_claim__constant_RX4_83_1000000__4cda48 : (.constant RX4 83 (1000000) : Cond) ∈ wsX4_claim := by decide +kernel
theorem w_X4_claim__fieldLink_RX4_20_WordsBesideModel_of_I__9fac8e : (.fieldLink RX4 20 "WordsBesideModel" "of" "[I" : Cond) ∈ wsX4_claim := by decide +kernel
theorem w_X4_claim__fieldLink_RX4_23_WordsBesideModel_kind_I__cf4f2c : (.fieldLink RX4 23 "WordsBesideModel" "kind" "[I" : Cond) ∈ wsX4_claim := by decide +kernel
theorem w_X4_claim__fieldLink_RX4_26_WordsBesideModel_first_I__de9671 : (.fieldLink RX4 26 "WordsBesideModel" "first" "[I" : Cond) ∈ wsX4_claim := by decide +kernel
theorem w_X4_claim__fieldLink_RX4_29_WordsBesideModel_second_I__491129 : (.fieldLink RX4 29 "WordsBesideModel" "second" "[I" : Cond) ∈ wsX4_claim := by decide +kernel
theorem w_X4_claim__fieldLink_RX4_32_WordsBesideModel_base_I__b13283 : (.fieldLink RX4 32 "WordsBesideModel" "base" "[I" : Cond) ∈ wsX4_claim := by decide +kernel
theorem w_X4_claim__fieldLink_RX4_75_WordsBesideModel_kept_I__b97d2f : (.fieldLink RX4 75 "WordsBesideModel" "kept" "I" : Cond) ∈ wsX4_claim := by decide +kernel
theorem w_X4_claim__fieldLink_RX4_79_WordsBesideModel_claims_I__a0b76b : (.fieldLink RX4 79 "WordsBesideModel" "claims" "I" : Cond) ∈ wsX4_claim := by decide +kernel
theorem in_X4_claim_X4 : ∀ w ∈ wsX40, w ∈ wsX4_claim := fun _ h => List.mem_cons_of_mem _ (List.mem_append_right _ h)
set_option maxHeartbeats 4000000 in
set_option maxRecDepth 100000 in
theorem c_X4_claim (l : Launch) (D : va_G) (cI cZ cW cC : ClassId) (ad : Nat → Nat) (ln st gv oF kF fF sF bF mF hF : Nat → Int32) (kp cm m1 m2 : Int32) (n : Nat) (hn : n ≤ 40) (en : cm = nI n) (fx kd p1 q1 : Int32) (sz : Nat) : zq_mu l D cI cZ cW cC yX4_claim wsX4_claim ({ frames := 2, cells := 0, slots := 0, locals := 42 } : Room) [.ref (ad 0), .int fx, .int kd, .int p1, .int q1] (mW cI cZ ad ln st gv oF kF fF sF bF mF hF kp cm m1 m2) sz (fun v w1 => ((zr 6 fx ∧ zcl kd p1 q1 ∧ n < 40) ∧ v = some (.int (nI n)) ∧ w1 = (mW cI cZ ad ln st gv (upd oF n fx) (upd kF n kd) (upd fF n p1) (upd sF n q1) (upd bF n kp) mF hF kp (nI (n + 1)) m1 m2)) ∨ (¬ (zr 6 fx ∧ zcl kd p1 q1 ∧ n < 40) ∧ v = some (.int (-1)) ∧ w1 = (mW cI cZ ad ln st gv oF kF fF sF bF mF hF kp (nI n) m1 m2))) 0 0 := by
  refine zq_muI (own := RX4) (by decide) rfl rfl (Nat.le_of_ble_eq_true rfl) ?_
  intro p e s m below meth c Q A ls hsz hF hin hA hP hK hD hS hl ret
  obtain ⟨hx, hb, hml, hown, hts⟩ := hF
  have hl : lv_has ls 6 [(0, .ref (ad 0)), (1, .int fx), (2, .int kd), (3, .int p1), (4, .int q1)] := hl
  subst en
  refine lv_iload_n hx hb dX4_claim_0 rfl (lv_at hl 1 rfl) ?_
  refine zq_cS (rest := []) ⟨hx, hb, hml, hown, hts⟩ (c_X4_isFunction l D cI cZ cW cC fx) (va_cwS 1 hts gX4_claim_X4_isFunction rfl rfl rfl (by decide +kernel) ⟨Nat.le_of_ble_eq_true rfl, Nat.le_of_ble_eq_true rfl⟩) hK (fun k q h => by simp at h) rfl hl.1 rfl (Nat.le_of_ble_eq_true rfl) dX4_claim_1 ⟨Nat.le_of_ble_eq_true rfl, Nat.le_of_ble_eq_true rfl⟩ (fun v hv => ?_)
  rcases hv with ⟨rfl, hyf⟩ | ⟨rfl, hyf⟩
  · refine W.eq (g2 := F0 m 4 ls [.int (1 : Int32)]) rfl ?_
    refine lv_if_eq (tgt := 26) hx hb dX4_claim_4 (by decide) (fun c4 => absurd c4 (by decide)) (fun c4 => ?_)
    refine lv_iload_n hx hb dX4_claim_7 rfl (lv_at hl 2 rfl) ?_
    refine lv_iconst (v := (0 : Int32)) hx hb dX4_claim_8 (by decide) ?_
    refine lv_bipush (v := (nI 7)) hx hb dX4_claim_9 (by decide) ?_
    refine zq_cS (rest := []) ⟨hx, hb, hml, hown, hts⟩ (cz_X4_in l D cI cZ cW cC kd 7 (by omega)) (va_cwS 3 hts gX4_claim_X4_in rfl rfl rfl (by decide +kernel) ⟨Nat.le_of_ble_eq_true rfl, Nat.le_of_ble_eq_true rfl⟩) hK (fun k q h => by simp at h) rfl hl.1 rfl (Nat.le_of_ble_eq_true rfl) dX4_claim_11 ⟨Nat.le_of_ble_eq_true rfl, Nat.le_of_ble_eq_true rfl⟩ (fun v hv => ?_)
    rcases hv with ⟨rfl, hy8⟩ | ⟨rfl, hy8⟩
    · refine W.eq (g2 := F0 m 14 ls [.int (1 : Int32)]) rfl ?_
      refine lv_if_eq (tgt := 26) hx hb dX4_claim_14 (by decide) (fun c14 => absurd c14 (by decide)) (fun c14 => ?_)
      refine lv_aload_n hx hb dX4_claim_17 rfl (lv_at hl 0 rfl) ?_
      refine zq_get hx hb hts in_X4_claim_X4 hown hK hP 0 rfl rfl 4 (by decide) (hts _ w_X4_claim__fieldLink_RX4_79_WordsBesideModel_claims_I__a0b76b) rfl dX4_claim_18 ?_
      refine lv_bipush (v := (nI 40)) hx hb dX4_claim_21 (by decide) ?_
      refine lv_icmp_ne (tgt := 28) hx hb dX4_claim_23 (by decide) (fun c23 => ?_) (fun c23 => ?_)
      · have h23 := zne c23
        refine lv_iconst (v := (1 : Int32)) hx hb dX4_claim_28 (by decide) ?_
        refine lv_istore (lv' := [(5, .int (1 : Int32)), (0, .ref (ad 0)), (1, .int fx), (2, .int kd), (3, .int p1), (4, .int q1)]) hx hb dX4_claim_29 hl (by decide) rfl (fun ls hl => ?_)
        refine lv_iload_n hx hb dX4_claim_31 rfl (lv_at hl 3 rfl) ?_
        by_cases k32_0 : kd = (0 : Int32)
        · refine lv_tableIn (tgt := 80) hx hb dX4_claim_32 (by rw [k32_0]; decide) (by rw [k32_0]; decide) (by rw [k32_0]; rfl) (by decide) ?_
          refine lv_iload_n hx hb dX4_claim_80 rfl (lv_at hl 4 rfl) ?_
          refine lv_ldc (v := (-1000000 : Int32)) hx hb hown (hts _ w_X4_claim__constant_RX4_82_1000000__0118b9) dX4_claim_81 ?_
          refine lv_icmp_lt (tgt := 103) hx hb dX4_claim_83 (by decide) (fun c83 => ?_) (fun c83 => ?_)
          · refine lv_iconst (v := (0 : Int32)) hx hb dX4_claim_103 (by decide) ?_
            refine lv_istore (lv' := [(5, .int (0 : Int32)), (0, .ref (ad 0)), (1, .int fx), (2, .int kd), (3, .int p1), (4, .int q1)]) hx hb dX4_claim_104 hl (by decide) rfl (fun ls hl => ?_)
            refine lv_goto (tgt := 176) hx hb dX4_claim_106 (by decide) ?_
            refine lv_iload hx hb dX4_claim_176 (lv_at hl 0 rfl) ?_
            refine lv_if_ne (tgt := 183) hx hb dX4_claim_178 (by decide) (fun c178 => absurd c178 (by decide)) (fun c178 => ?_)
            refine lv_iconst (v := (-1 : Int32)) hx hb dX4_claim_181 (by decide) ?_
            exact ret _ _ _ _ _ _ (Or.inr ⟨(fun q => by rw [k32_0] at q; rcases q.2.1 with z | z | z | z | z | z | z | z <;> first | exact absurd z (by decide) | exact absurd z.1 (by decide) | (exact absurd z.2.1 (Int32.not_le.mpr c83)) | fail "open"), rfl, rfl⟩) hP hD hS dX4_claim_182
          · refine lv_iload_n hx hb dX4_claim_86 rfl (lv_at hl 4 rfl) ?_
            refine lv_iload hx hb dX4_claim_87 (lv_at hl 5 rfl) ?_
            refine lv_icmp_gt (tgt := 103) hx hb dX4_claim_89 (by decide) (fun c89 => ?_) (fun c89 => ?_)
            · refine lv_iconst (v := (0 : Int32)) hx hb dX4_claim_103 (by decide) ?_
              refine lv_istore (lv' := [(5, .int (0 : Int32)), (0, .ref (ad 0)), (1, .int fx), (2, .int kd), (3, .int p1), (4, .int q1)]) hx hb dX4_claim_104 hl (by decide) rfl (fun ls hl => ?_)
              refine lv_goto (tgt := 176) hx hb dX4_claim_106 (by decide) ?_
              refine lv_iload hx hb dX4_claim_176 (lv_at hl 0 rfl) ?_
              refine lv_if_ne (tgt := 183) hx hb dX4_claim_178 (by decide) (fun c178 => absurd c178 (by decide)) (fun c178 => ?_)
              refine lv_iconst (v := (-1 : Int32)) hx hb dX4_claim_181 (by decide) ?_
              exact ret _ _ _ _ _ _ (Or.inr ⟨(fun q => by rw [k32_0] at q; rcases q.2.1 with z | z | z | z | z | z | z | z <;> first | exact absurd z (by decide) | exact absurd z.1 (by decide) | (exact absurd z.2.2.1 (Int32.not_le.mpr c89)) | fail "open"), rfl, rfl⟩) hP hD hS dX4_claim_182
            · refine lv_iload hx hb dX4_claim_92 (lv_at hl 5 rfl) ?_
              refine lv_ldc (v := (1000000 : Int32)) hx hb hown (hts _ w_X4_claim__constant_RX4_83_1000000__4cda48) dX4_claim_94 ?_
              refine lv_icmp_gt (tgt := 103) hx hb dX4_claim_96 (by decide) (fun c96 => ?_) (fun c96 => ?_)
              · refine lv_iconst (v := (0 : Int32)) hx hb dX4_claim_103 (by decide) ?_
                refine lv_istore (lv' := [(5, .int (0 : Int32)), (0, .ref (ad 0)), (1, .int fx), (2, .int kd), (3, .int p1), (4, .int q1)]) hx hb dX4_claim_104 hl (by decide) rfl (fun ls hl => ?_)
                refine lv_goto (tgt := 176) hx hb dX4_claim_106 (by decide) ?_
                refine lv_iload hx hb dX4_claim_176 (lv_at hl 0 rfl) ?_
                refine lv_if_ne (tgt := 183) hx hb dX4_claim_178 (by decide) (fun c178 => absurd c178 (by decide)) (fun c178 => ?_)
                refine lv_iconst (v := (-1 : Int32)) hx hb dX4_claim_181 (by decide) ?_
                exact ret _ _ _ _ _ _ (Or.inr ⟨(fun q => by rw [k32_0] at q; rcases q.2.1 with z | z | z | z | z | z | z | z <;> first | exact absurd z (by decide) | exact absurd z.1 (by decide) | (exact absurd z.2.2.2 (Int32.not_le.mpr c96)) | fail "open"), rfl, rfl⟩) hP hD hS dX4_claim_182
              · refine lv_iconst (v := (1 : Int32)) hx hb dX4_claim_99 (by decide) ?_
                refine lv_goto (tgt := 104) hx hb dX4_claim_100 (by decide) ?_
                refine lv_istore (lv' := [(5, .int (1 : Int32)), (0, .ref (ad 0)), (1, .int fx), (2, .int kd), (3, .int p1), (4, .int q1)]) hx hb dX4_claim_104 hl (by decide) rfl (fun ls hl => ?_)
                refine lv_goto (tgt := 176) hx hb dX4_claim_106 (by decide) ?_
                refine lv_iload hx hb dX4_claim_176 (lv_at hl 0 rfl) ?_
                refine lv_if_ne (tgt := 183) hx hb dX4_claim_178 (by decide) (fun c178 => ?_) (fun c178 => absurd c178 (by decide))
                refine lv_aload_n hx hb dX4_claim_183 rfl (lv_at hl 1 rfl) ?_
                refine zq_get hx hb hts in_X4_claim_X4 hown hK hP 0 rfl rfl 5 (by decide) (hts _ w_X4_claim__fieldLink_RX4_20_WordsBesideModel_of_I__9fac8e) rfl dX4_claim_184 ?_
                refine lv_aload_n hx hb dX4_claim_187 rfl (lv_at hl 1 rfl) ?_
                refine zq_get hx hb hts in_X4_claim_X4 hown hK hP 0 rfl rfl 4 (by decide) (hts _ w_X4_claim__fieldLink_RX4_79_WordsBesideModel_claims_I__a0b76b) rfl dX4_claim_188 ?_
                refine lv_iload_n hx hb dX4_claim_191 rfl (lv_at hl 2 rfl) ?_
                refine zq_ist hx hb hK hP hD hS 4 rfl n rfl (by omega) (by decide) dX4_claim_192 (fun H locs hP hD hS => ?_)
                have hP : va_P D vwCl (mW cI cZ ad ln st gv (upd oF n fx) kF fF sF bF mF hF kp (nI n) m1 m2) H := hP
                have hD : va_D A (mW cI cZ ad ln st gv (upd oF n fx) kF fF sF bF mF hF kp (nI n) m1 m2) := hD
                refine lv_aload_n hx hb dX4_claim_193 rfl (lv_at hl 1 rfl) ?_
                refine zq_get hx hb hts in_X4_claim_X4 hown hK hP 0 rfl rfl 6 (by decide) (hts _ w_X4_claim__fieldLink_RX4_23_WordsBesideModel_kind_I__cf4f2c) rfl dX4_claim_194 ?_
                refine lv_aload_n hx hb dX4_claim_197 rfl (lv_at hl 1 rfl) ?_
                refine zq_get hx hb hts in_X4_claim_X4 hown hK hP 0 rfl rfl 4 (by decide) (hts _ w_X4_claim__fieldLink_RX4_79_WordsBesideModel_claims_I__a0b76b) rfl dX4_claim_198 ?_
                refine lv_iload_n hx hb dX4_claim_201 rfl (lv_at hl 3 rfl) ?_
                refine zq_ist hx hb hK hP hD hS 5 rfl n rfl (by omega) (by decide) dX4_claim_202 (fun H locs hP hD hS => ?_)
                have hP : va_P D vwCl (mW cI cZ ad ln st gv (upd oF n fx) (upd kF n kd) fF sF bF mF hF kp (nI n) m1 m2) H := hP
                have hD : va_D A (mW cI cZ ad ln st gv (upd oF n fx) (upd kF n kd) fF sF bF mF hF kp (nI n) m1 m2) := hD
                refine lv_aload_n hx hb dX4_claim_203 rfl (lv_at hl 1 rfl) ?_
                refine zq_get hx hb hts in_X4_claim_X4 hown hK hP 0 rfl rfl 7 (by decide) (hts _ w_X4_claim__fieldLink_RX4_26_WordsBesideModel_first_I__de9671) rfl dX4_claim_204 ?_
                refine lv_aload_n hx hb dX4_claim_207 rfl (lv_at hl 1 rfl) ?_
                refine zq_get hx hb hts in_X4_claim_X4 hown hK hP 0 rfl rfl 4 (by decide) (hts _ w_X4_claim__fieldLink_RX4_79_WordsBesideModel_claims_I__a0b76b) rfl dX4_claim_208 ?_
                refine lv_iload_n hx hb dX4_claim_211 rfl (lv_at hl 4 rfl) ?_
                refine zq_ist hx hb hK hP hD hS 6 rfl n rfl (by omega) (by decide) dX4_claim_212 (fun H locs hP hD hS => ?_)
                have hP : va_P D vwCl (mW cI cZ ad ln st gv (upd oF n fx) (upd kF n kd) (upd fF n p1) sF bF mF hF kp (nI n) m1 m2) H := hP
                have hD : va_D A (mW cI cZ ad ln st gv (upd oF n fx) (upd kF n kd) (upd fF n p1) sF bF mF hF kp (nI n) m1 m2) := hD
                refine lv_aload_n hx hb dX4_claim_213 rfl (lv_at hl 1 rfl) ?_
                refine zq_get hx hb hts in_X4_claim_X4 hown hK hP 0 rfl rfl 8 (by decide) (hts _ w_X4_claim__fieldLink_RX4_29_WordsBesideModel_second_I__491129) rfl dX4_claim_214 ?_
                refine lv_aload_n hx hb dX4_claim_217 rfl (lv_at hl 1 rfl) ?_
                refine zq_get hx hb hts in_X4_claim_X4 hown hK hP 0 rfl rfl 4 (by decide) (hts _ w_X4_claim__fieldLink_RX4_79_WordsBesideModel_claims_I__a0b76b) rfl dX4_claim_218 ?_
                refine lv_iload hx hb dX4_claim_221 (lv_at hl 5 rfl) ?_
                refine zq_ist hx hb hK hP hD hS 7 rfl n rfl (by omega) (by decide) dX4_claim_223 (fun H locs hP hD hS => ?_)
                have hP : va_P D vwCl (mW cI cZ ad ln st gv (upd oF n fx) (upd kF n kd) (upd fF n p1) (upd sF n q1) bF mF hF kp (nI n) m1 m2) H := hP
                have hD : va_D A (mW cI cZ ad ln st gv (upd oF n fx) (upd kF n kd) (upd fF n p1) (upd sF n q1) bF mF hF kp (nI n) m1 m2) := hD
                refine lv_aload_n hx hb dX4_claim_224 rfl (lv_at hl 1 rfl) ?_
                refine zq_get hx hb hts in_X4_claim_X4 hown hK hP 0 rfl rfl 9 (by decide) (hts _ w_X4_claim__fieldLink_RX4_32_WordsBesideModel_base_I__b13283) rfl dX4_claim_225 ?_
                refine lv_aload_n hx hb dX4_claim_228 rfl (lv_at hl 1 rfl) ?_
                refine zq_get hx hb hts in_X4_claim_X4 hown hK hP 0 rfl rfl 4 (by decide) (hts _ w_X4_claim__fieldLink_RX4_79_WordsBesideModel_claims_I__a0b76b) rfl dX4_claim_229 ?_
                refine lv_aload_n hx hb dX4_claim_232 rfl (lv_at hl 1 rfl) ?_
                refine zq_get hx hb hts in_X4_claim_X4 hown hK hP 0 rfl rfl 2 (by decide) (hts _ w_X4_claim__fieldLink_RX4_75_WordsBesideModel_kept_I__b97d2f) rfl dX4_claim_233 ?_
                refine zq_ist hx hb hK hP hD hS 8 rfl n rfl (by omega) (by decide) dX4_claim_236 (fun H locs hP hD hS => ?_)
                have hP : va_P D vwCl (mW cI cZ ad ln st gv (upd oF n fx) (upd kF n kd) (upd fF n p1) (upd sF n q1) (upd bF n kp) mF hF kp (nI n) m1 m2) H := hP
                have hD : va_D A (mW cI cZ ad ln st gv (upd oF n fx) (upd kF n kd) (upd fF n p1) (upd sF n q1) (upd bF n kp) mF hF kp (nI n) m1 m2) := hD
                refine lv_aload_n hx hb dX4_claim_237 rfl (lv_at hl 1 rfl) ?_
                refine lv_dup hx hb dX4_claim_238 rfl ?_
                refine zq_get hx hb hts in_X4_claim_X4 hown hK hP 0 rfl rfl 4 (by decide) (hts _ w_X4_claim__fieldLink_RX4_79_WordsBesideModel_claims_I__a0b76b) rfl dX4_claim_239 ?_
                refine lv_iconst (v := (nI 1)) hx hb dX4_claim_242 (by decide) ?_
                refine lv_iadd hx hb dX4_claim_243 ?_
                refine zq_te (y := (nI (n + 1))) (nI_add _ _) ?_
                refine zq_put hx hb hts in_X4_claim_X4 tyX4 tyX4_ok nmX4 hown hK hP hD hS 0 rfl rfl 4 (by decide) (hts _ w_X4_claim__fieldLink_RX4_79_WordsBesideModel_claims_I__a0b76b) rfl rfl rfl (Nat.le_of_ble_eq_true rfl) dX4_claim_244 (fun H locs hP hD hS => ?_)
                have hP : va_P D vwCl (mW cI cZ ad ln st gv (upd oF n fx) (upd kF n kd) (upd fF n p1) (upd sF n q1) (upd bF n kp) mF hF kp (nI (n + 1)) m1 m2) H := hP
                have hD : va_D A (mW cI cZ ad ln st gv (upd oF n fx) (upd kF n kd) (upd fF n p1) (upd sF n q1) (upd bF n kp) mF hF kp (nI (n + 1)) m1 m2) := hD
                refine lv_aload_n hx hb dX4_claim_247 rfl (lv_at hl 1 rfl) ?_
                refine zq_get hx hb hts in_X4_claim_X4 hown hK hP 0 rfl rfl 4 (by decide) (hts _ w_X4_claim__fieldLink_RX4_79_WordsBesideModel_claims_I__a0b76b) rfl dX4_claim_248 ?_
                refine lv_iconst (v := (nI 1)) hx hb dX4_claim_251 (by decide) ?_
                refine lv_isub hx hb dX4_claim_252 ?_
                refine zq_te (y := (nI n)) (pk_sub (by omega)) ?_
                exact ret _ _ _ _ _ _ (Or.inl ⟨⟨hyf, Or.inl ⟨k32_0, Int32.not_lt.mp c83, Int32.not_lt.mp c89, Int32.not_lt.mp c96⟩, by omega⟩, rfl, rfl⟩) hP hD hS dX4_claim_253
        · by_cases k32_1 : kd = (1 : Int32)
          · refine lv_tableIn (tgt := 176) hx hb dX4_claim_32 (by rw [k32_1]; decide) (by rw [k32_1]; decide) (by rw [k32_1]; rfl) (by decide) ?_
            refine lv_iload hx hb dX4_claim_176 (lv_at hl 0 rfl) ?_
            refine lv_if_ne (tgt := 183) hx hb dX4_claim_178 (by decide) (fun c178 => ?_) (fun c178 => absurd c178 (by decide))
            refine lv_aload_n hx hb dX4_claim_183 rfl (lv_at hl 1 rfl) ?_
            refine zq_get hx hb hts in_X4_claim_X4 hown hK hP 0 rfl rfl 5 (by decide) (hts _ w_X4_claim__fieldLink_RX4_20_WordsBesideModel_of_I__9fac8e) rfl dX4_claim_184 ?_
            refine lv_aload_n hx hb dX4_claim_187 rfl (lv_at hl 1 rfl) ?_
            refine zq_get hx hb hts in_X4_claim_X4 hown hK hP 0 rfl rfl 4 (by decide) (hts _ w_X4_claim__fieldLink_RX4_79_WordsBesideModel_claims_I__a0b76b) rfl dX4_claim_188 ?_
            refine lv_iload_n hx hb dX4_claim_191 rfl (lv_at hl 2 rfl) ?_
            refine zq_ist hx hb hK hP hD hS 4 rfl n rfl (by omega) (by decide) dX4_claim_192 (fun H locs hP hD hS => ?_)
            have hP : va_P D vwCl (mW cI cZ ad ln st gv (upd oF n fx) kF fF sF bF mF hF kp (nI n) m1 m2) H := hP
            have hD : va_D A (mW cI cZ ad ln st gv (upd oF n fx) kF fF sF bF mF hF kp (nI n) m1 m2) := hD
            refine lv_aload_n hx hb dX4_claim_193 rfl (lv_at hl 1 rfl) ?_
            refine zq_get hx hb hts in_X4_claim_X4 hown hK hP 0 rfl rfl 6 (by decide) (hts _ w_X4_claim__fieldLink_RX4_23_WordsBesideModel_kind_I__cf4f2c) rfl dX4_claim_194 ?_
            refine lv_aload_n hx hb dX4_claim_197 rfl (lv_at hl 1 rfl) ?_
            refine zq_get hx hb hts in_X4_claim_X4 hown hK hP 0 rfl rfl 4 (by decide) (hts _ w_X4_claim__fieldLink_RX4_79_WordsBesideModel_claims_I__a0b76b) rfl dX4_claim_198 ?_
            refine lv_iload_n hx hb dX4_claim_201 rfl (lv_at hl 3 rfl) ?_
            refine zq_ist hx hb hK hP hD hS 5 rfl n rfl (by omega) (by decide) dX4_claim_202 (fun H locs hP hD hS => ?_)
            have hP : va_P D vwCl (mW cI cZ ad ln st gv (upd oF n fx) (upd kF n kd) fF sF bF mF hF kp (nI n) m1 m2) H := hP
            have hD : va_D A (mW cI cZ ad ln st gv (upd oF n fx) (upd kF n kd) fF sF bF mF hF kp (nI n) m1 m2) := hD
            refine lv_aload_n hx hb dX4_claim_203 rfl (lv_at hl 1 rfl) ?_
            refine zq_get hx hb hts in_X4_claim_X4 hown hK hP 0 rfl rfl 7 (by decide) (hts _ w_X4_claim__fieldLink_RX4_26_WordsBesideModel_first_I__de9671) rfl dX4_claim_204 ?_
            refine lv_aload_n hx hb dX4_claim_207 rfl (lv_at hl 1 rfl) ?_
            refine zq_get hx hb hts in_X4_claim_X4 hown hK hP 0 rfl rfl 4 (by decide) (hts _ w_X4_claim__fieldLink_RX4_79_WordsBesideModel_claims_I__a0b76b) rfl dX4_claim_208 ?_
            refine lv_iload_n hx hb dX4_claim_211 rfl (lv_at hl 4 rfl) ?_
            refine zq_ist hx hb hK hP hD hS 6 rfl n rfl (by omega) (by decide) dX4_claim_212 (fun H locs hP hD hS => ?_)
            have hP : va_P D vwCl (mW cI cZ ad ln st gv (upd oF n fx) (upd kF n kd) (upd fF n p1) sF bF mF hF kp (nI n) m1 m2) H := hP
            have hD : va_D A (mW cI cZ ad ln st gv (upd oF n fx) (upd kF n kd) (upd fF n p1) sF bF mF hF kp (nI n) m1 m2) := hD
            refine lv_aload_n hx hb dX4_claim_213 rfl (lv_at hl 1 rfl) ?_
            refine zq_get hx hb hts in_X4_claim_X4 hown hK hP 0 rfl rfl 8 (by decide) (hts _ w_X4_claim__fieldLink_RX4_29_WordsBesideModel_second_I__491129) rfl dX4_claim_214 ?_
            refine lv_aload_n hx hb dX4_claim_217 rfl (lv_at hl 1 rfl) ?_
            refine zq_get hx hb hts in_X4_claim_X4 hown hK hP 0 rfl rfl 4 (by decide) (hts _ w_X4_claim__fieldLink_RX4_79_WordsBesideModel_claims_I__a0b76b) rfl dX4_claim_218 ?_
            refine lv_iload hx hb dX4_claim_221 (lv_at hl 5 rfl) ?_
            refine zq_ist hx hb hK hP hD hS 7 rfl n rfl (by omega) (by decide) dX4_claim_223 (fun H locs hP hD hS => ?_)
            have hP : va_P D vwCl (mW cI cZ ad ln st gv (upd oF n fx) (upd kF n kd) (upd fF n p1) (upd sF n q1) bF mF hF kp (nI n) m1 m2) H := hP
            have hD : va_D A (mW cI cZ ad ln st gv (upd oF n fx) (upd kF n kd) (upd fF n p1) (upd sF n q1) bF mF hF kp (nI n) m1 m2) := hD
            refine lv_aload_n hx hb dX4_claim_224 rfl (lv_at hl 1 rfl) ?_
            refine zq_get hx hb hts in_X4_claim_X4 hown hK hP 0 rfl rfl 9 (by decide) (hts _ w_X4_claim__fieldLink_RX4_32_WordsBesideModel_base_I__b13283) rfl dX4_claim_225 ?_
            refine lv_aload_n hx hb dX4_claim_228 rfl (lv_at hl 1 rfl) ?_
            refine zq_get hx hb hts in_X4_claim_X4 hown hK hP 0 rfl rfl 4 (by decide) (hts _ w_X4_claim__fieldLink_RX4_79_WordsBesideModel_claims_I__a0b76b) rfl dX4_claim_229 ?_
            refine lv_aload_n hx hb dX4_claim_232 rfl (lv_at hl 1 rfl) ?_
            refine zq_get hx hb hts in_X4_claim_X4 hown hK hP 0 rfl rfl 2 (by decide) (hts _ w_X4_claim__fieldLink_RX4_75_WordsBesideModel_kept_I__b97d2f) rfl dX4_claim_233 ?_
            refine zq_ist hx hb hK hP hD hS 8 rfl n rfl (by omega) (by decide) dX4_claim_236 (fun H locs hP hD hS => ?_)
            have hP : va_P D vwCl (mW cI cZ ad ln st gv (upd oF n fx) (upd kF n kd) (upd fF n p1) (upd sF n q1) (upd bF n kp) mF hF kp (nI n) m1 m2) H := hP
            have hD : va_D A (mW cI cZ ad ln st gv (upd oF n fx) (upd kF n kd) (upd fF n p1) (upd sF n q1) (upd bF n kp) mF hF kp (nI n) m1 m2) := hD
            refine lv_aload_n hx hb dX4_claim_237 rfl (lv_at hl 1 rfl) ?_
            refine lv_dup hx hb dX4_claim_238 rfl ?_
            refine zq_get hx hb hts in_X4_claim_X4 hown hK hP 0 rfl rfl 4 (by decide) (hts _ w_X4_claim__fieldLink_RX4_79_WordsBesideModel_claims_I__a0b76b) rfl dX4_claim_239 ?_
            refine lv_iconst (v := (nI 1)) hx hb dX4_claim_242 (by decide) ?_
            refine lv_iadd hx hb dX4_claim_243 ?_
            refine zq_te (y := (nI (n + 1))) (nI_add _ _) ?_
            refine zq_put hx hb hts in_X4_claim_X4 tyX4 tyX4_ok nmX4 hown hK hP hD hS 0 rfl rfl 4 (by decide) (hts _ w_X4_claim__fieldLink_RX4_79_WordsBesideModel_claims_I__a0b76b) rfl rfl rfl (Nat.le_of_ble_eq_true rfl) dX4_claim_244 (fun H locs hP hD hS => ?_)
            have hP : va_P D vwCl (mW cI cZ ad ln st gv (upd oF n fx) (upd kF n kd) (upd fF n p1) (upd sF n q1) (upd bF n kp) mF hF kp (nI (n + 1)) m1 m2) H := hP
            have hD : va_D A (mW cI cZ ad ln st gv (upd oF n fx) (upd kF n kd) (upd fF n p1) (upd sF n q1) (upd bF n kp) mF hF kp (nI (n + 1)) m1 m2) := hD
            refine lv_aload_n hx hb dX4_claim_247 rfl (lv_at hl 1 rfl) ?_
            refine zq_get hx hb hts in_X4_claim_X4 hown hK hP 0 rfl rfl 4 (by decide) (hts _ w_X4_claim__fieldLink_RX4_79_WordsBesideModel_claims_I__a0b76b) rfl dX4_claim_248 ?_
            refine lv_iconst (v := (nI 1)) hx hb dX4_claim_251 (by decide) ?_
            refine lv_isub hx hb dX4_claim_252 ?_
            refine zq_te (y := (nI n)) (pk_sub (by omega)) ?_
            exact ret _ _ _ _ _ _ (Or.inl ⟨⟨hyf, Or.inr (Or.inl k32_1), by omega⟩, rfl, rfl⟩) hP hD hS dX4_claim_253
          · by_cases k32_2 : kd = (2 : Int32)
            · refine lv_tableIn (tgt := 176) hx hb dX4_claim_32 (by rw [k32_2]; decide) (by rw [k32_2]; decide) (by rw [k32_2]; rfl) (by decide) ?_
              refine lv_iload hx hb dX4_claim_176 (lv_at hl 0 rfl) ?_
              refine lv_if_ne (tgt := 183) hx hb dX4_claim_178 (by decide) (fun c178 => ?_) (fun c178 => absurd c178 (by decide))
              refine lv_aload_n hx hb dX4_claim_183 rfl (lv_at hl 1 rfl) ?_
              refine zq_get hx hb hts in_X4_claim_X4 hown hK hP 0 rfl rfl 5 (by decide) (hts _ w_X4_claim__fieldLink_RX4_20_WordsBesideModel_of_I__9fac8e) rfl dX4_claim_184 ?_
              refine lv_aload_n hx hb dX4_claim_187 rfl (lv_at hl 1 rfl) ?_
              refine zq_get hx hb hts in_X4_claim_X4 hown hK hP 0 rfl rfl 4 (by decide) (hts _ w_X4_claim__fieldLink_RX4_79_WordsBesideModel_claims_I__a0b76b) rfl dX4_claim_188 ?_
              refine lv_iload_n hx hb dX4_claim_191 rfl (lv_at hl 2 rfl) ?_
              refine zq_ist hx hb hK hP hD hS 4 rfl n rfl (by omega) (by decide) dX4_claim_192 (fun H locs hP hD hS => ?_)
              have hP : va_P D vwCl (mW cI cZ ad ln st gv (upd oF n fx) kF fF sF bF mF hF kp (nI n) m1 m2) H := hP
              have hD : va_D A (mW cI cZ ad ln st gv (upd oF n fx) kF fF sF bF mF hF kp (nI n) m1 m2) := hD
              refine lv_aload_n hx hb dX4_claim_193 rfl (lv_at hl 1 rfl) ?_
              refine zq_get hx hb hts in_X4_claim_X4 hown hK hP 0 rfl rfl 6 (by decide) (hts _ w_X4_claim__fieldLink_RX4_23_WordsBesideModel_kind_I__cf4f2c) rfl dX4_claim_194 ?_
              refine lv_aload_n hx hb dX4_claim_197 rfl (lv_at hl 1 rfl) ?_
              refine zq_get hx hb hts in_X4_claim_X4 hown hK hP 0 rfl rfl 4 (by decide) (hts _ w_X4_claim__fieldLink_RX4_79_WordsBesideModel_claims_I__a0b76b) rfl dX4_claim_198 ?_
              refine lv_iload_n hx hb dX4_claim_201 rfl (lv_at hl 3 rfl) ?_
              refine zq_ist hx hb hK hP hD hS 5 rfl n rfl (by omega) (by decide) dX4_claim_202 (fun H locs hP hD hS => ?_)
              have hP : va_P D vwCl (mW cI cZ ad ln st gv (upd oF n fx) (upd kF n kd) fF sF bF mF hF kp (nI n) m1 m2) H := hP
              have hD : va_D A (mW cI cZ ad ln st gv (upd oF n fx) (upd kF n kd) fF sF bF mF hF kp (nI n) m1 m2) := hD
              refine lv_aload_n hx hb dX4_claim_203 rfl (lv_at hl 1 rfl) ?_
              refine zq_get hx hb hts in_X4_claim_X4 hown hK hP 0 rfl rfl 7 (by decide) (hts _ w_X4_claim__fieldLink_RX4_26_WordsBesideModel_first_I__de9671) rfl dX4_claim_204 ?_
              refine lv_aload_n hx hb dX4_claim_207 rfl (lv_at hl 1 rfl) ?_
              refine zq_get hx hb hts in_X4_claim_X4 hown hK hP 0 rfl rfl 4 (by decide) (hts _ w_X4_claim__fieldLink_RX4_79_WordsBesideModel_claims_I__a0b76b) rfl dX4_claim_208 ?_
              refine lv_iload_n hx hb dX4_claim_211 rfl (lv_at hl 4 rfl) ?_
              refine zq_ist hx hb hK hP hD hS 6 rfl n rfl (by omega) (by decide) dX4_claim_212 (fun H locs hP hD hS => ?_)
              have hP : va_P D vwCl (mW cI cZ ad ln st gv (upd oF n fx) (upd kF n kd) (upd fF n p1) sF bF mF hF kp (nI n) m1 m2) H := hP
              have hD : va_D A (mW cI cZ ad ln st gv (upd oF n fx) (upd kF n kd) (upd fF n p1) sF bF mF hF kp (nI n) m1 m2) := hD
              refine lv_aload_n hx hb dX4_claim_213 rfl (lv_at hl 1 rfl) ?_
              refine zq_get hx hb hts in_X4_claim_X4 hown hK hP 0 rfl rfl 8 (by decide) (hts _ w_X4_claim__fieldLink_RX4_29_WordsBesideModel_second_I__491129) rfl dX4_claim_214 ?_
              refine lv_aload_n hx hb dX4_claim_217 rfl (lv_at hl 1 rfl) ?_
              refine zq_get hx hb hts in_X4_claim_X4 hown hK hP 0 rfl rfl 4 (by decide) (hts _ w_X4_claim__fieldLink_RX4_79_WordsBesideModel_claims_I__a0b76b) rfl dX4_claim_218 ?_
              refine lv_iload hx hb dX4_claim_221 (lv_at hl 5 rfl) ?_
              refine zq_ist hx hb hK hP hD hS 7 rfl n rfl (by omega) (by decide) dX4_claim_223 (fun H locs hP hD hS => ?_)
              have hP : va_P D vwCl (mW cI cZ ad ln st gv (upd oF n fx) (upd kF n kd) (upd fF n p1) (upd sF n q1) bF mF hF kp (nI n) m1 m2) H := hP
              have hD : va_D A (mW cI cZ ad ln st gv (upd oF n fx) (upd kF n kd) (upd fF n p1) (upd sF n q1) bF mF hF kp (nI n) m1 m2) := hD
              refine lv_aload_n hx hb dX4_claim_224 rfl (lv_at hl 1 rfl) ?_
              refine zq_get hx hb hts in_X4_claim_X4 hown hK hP 0 rfl rfl 9 (by decide) (hts _ w_X4_claim__fieldLink_RX4_32_WordsBesideModel_base_I__b13283) rfl dX4_claim_225 ?_
              refine lv_aload_n hx hb dX4_claim_228 rfl (lv_at hl 1 rfl) ?_
              refine zq_get hx hb hts in_X4_claim_X4 hown hK hP 0 rfl rfl 4 (by decide) (hts _ w_X4_claim__fieldLink_RX4_79_WordsBesideModel_claims_I__a0b76b) rfl dX4_claim_229 ?_
              refine lv_aload_n hx hb dX4_claim_232 rfl (lv_at hl 1 rfl) ?_
              refine zq_get hx hb hts in_X4_claim_X4 hown hK hP 0 rfl rfl 2 (by decide) (hts _ w_X4_claim__fieldLink_RX4_75_WordsBesideModel_kept_I__b97d2f) rfl dX4_claim_233 ?_
              refine zq_ist hx hb hK hP hD hS 8 rfl n rfl (by omega) (by decide) dX4_claim_236 (fun H locs hP hD hS => ?_)
              have hP : va_P D vwCl (mW cI cZ ad ln st gv (upd oF n fx) (upd kF n kd) (upd fF n p1) (upd sF n q1) (upd bF n kp) mF hF kp (nI n) m1 m2) H := hP
              have hD : va_D A (mW cI cZ ad ln st gv (upd oF n fx) (upd kF n kd) (upd fF n p1) (upd sF n q1) (upd bF n kp) mF hF kp (nI n) m1 m2) := hD
              refine lv_aload_n hx hb dX4_claim_237 rfl (lv_at hl 1 rfl) ?_
              refine lv_dup hx hb dX4_claim_238 rfl ?_
              refine zq_get hx hb hts in_X4_claim_X4 hown hK hP 0 rfl rfl 4 (by decide) (hts _ w_X4_claim__fieldLink_RX4_79_WordsBesideModel_claims_I__a0b76b) rfl dX4_claim_239 ?_
              refine lv_iconst (v := (nI 1)) hx hb dX4_claim_242 (by decide) ?_
              refine lv_iadd hx hb dX4_claim_243 ?_
              refine zq_te (y := (nI (n + 1))) (nI_add _ _) ?_
              refine zq_put hx hb hts in_X4_claim_X4 tyX4 tyX4_ok nmX4 hown hK hP hD hS 0 rfl rfl 4 (by decide) (hts _ w_X4_claim__fieldLink_RX4_79_WordsBesideModel_claims_I__a0b76b) rfl rfl rfl (Nat.le_of_ble_eq_true rfl) dX4_claim_244 (fun H locs hP hD hS => ?_)
              have hP : va_P D vwCl (mW cI cZ ad ln st gv (upd oF n fx) (upd kF n kd) (upd fF n p1) (upd sF n q1) (upd bF n kp) mF hF kp (nI (n + 1)) m1 m2) H := hP
              have hD : va_D A (mW cI cZ ad ln st gv (upd oF n fx) (upd kF n kd) (upd fF n p1) (upd sF n q1) (upd bF n kp) mF hF kp (nI (n + 1)) m1 m2) := hD
              refine lv_aload_n hx hb dX4_claim_247 rfl (lv_at hl 1 rfl) ?_
              refine zq_get hx hb hts in_X4_claim_X4 hown hK hP 0 rfl rfl 4 (by decide) (hts _ w_X4_claim__fieldLink_RX4_79_WordsBesideModel_claims_I__a0b76b) rfl dX4_claim_248 ?_
              refine lv_iconst (v := (nI 1)) hx hb dX4_claim_251 (by decide) ?_
              refine lv_isub hx hb dX4_claim_252 ?_
              refine zq_te (y := (nI n)) (pk_sub (by omega)) ?_
              exact ret _ _ _ _ _ _ (Or.inl ⟨⟨hyf, Or.inr (Or.inr (Or.inl k32_2)), by omega⟩, rfl, rfl⟩) hP hD hS dX4_claim_253
            · by_cases k32_3 : kd = (3 : Int32)
              · refine lv_tableIn (tgt := 109) hx hb dX4_claim_32 (by rw [k32_3]; decide) (by rw [k32_3]; decide) (by rw [k32_3]; rfl) (by decide) ?_
                refine lv_iload_n hx hb dX4_claim_109 rfl (lv_at hl 4 rfl) ?_
                refine lv_iconst (v := (1 : Int32)) hx hb dX4_claim_110 (by decide) ?_
                refine lv_sipush (v := (nI 1000)) hx hb dX4_claim_111 (by decide) ?_
                refine zq_cS (rest := []) ⟨hx, hb, hml, hown, hts⟩ (c_X4_in l D cI cZ cW cC p1 1 (nI 1000)) (va_cwS 3 hts gX4_claim_X4_in rfl rfl rfl (by decide +kernel) ⟨Nat.le_of_ble_eq_true rfl, Nat.le_of_ble_eq_true rfl⟩) hK (fun k q h => by simp at h) rfl hl.1 rfl (Nat.le_of_ble_eq_true rfl) dX4_claim_114 ⟨Nat.le_of_ble_eq_true rfl, Nat.le_of_ble_eq_true rfl⟩ (fun v hv => ?_)
                rcases hv with ⟨rfl, hyi⟩ | ⟨rfl, hyi⟩
                · refine W.eq (g2 := F0 m 117 ls [.int (1 : Int32)]) rfl ?_
                  refine lv_istore (lv' := [(5, .int (1 : Int32)), (0, .ref (ad 0)), (1, .int fx), (2, .int kd), (3, .int p1), (4, .int q1)]) hx hb dX4_claim_117 hl (by decide) rfl (fun ls hl => ?_)
                  refine lv_goto (tgt := 176) hx hb dX4_claim_119 (by decide) ?_
                  refine lv_iload hx hb dX4_claim_176 (lv_at hl 0 rfl) ?_
                  refine lv_if_ne (tgt := 183) hx hb dX4_claim_178 (by decide) (fun c178 => ?_) (fun c178 => absurd c178 (by decide))
                  refine lv_aload_n hx hb dX4_claim_183 rfl (lv_at hl 1 rfl) ?_
                  refine zq_get hx hb hts in_X4_claim_X4 hown hK hP 0 rfl rfl 5 (by decide) (hts _ w_X4_claim__fieldLink_RX4_20_WordsBesideModel_of_I__9fac8e) rfl dX4_claim_184 ?_
                  refine lv_aload_n hx hb dX4_claim_187 rfl (lv_at hl 1 rfl) ?_
                  refine zq_get hx hb hts in_X4_claim_X4 hown hK hP 0 rfl rfl 4 (by decide) (hts _ w_X4_claim__fieldLink_RX4_79_WordsBesideModel_claims_I__a0b76b) rfl dX4_claim_188 ?_
                  refine lv_iload_n hx hb dX4_claim_191 rfl (lv_at hl 2 rfl) ?_
                  refine zq_ist hx hb hK hP hD hS 4 rfl n rfl (by omega) (by decide) dX4_claim_192 (fun H locs hP hD hS => ?_)
                  have hP : va_P D vwCl (mW cI cZ ad ln st gv (upd oF n fx) kF fF sF bF mF hF kp (nI n) m1 m2) H := hP
                  have hD : va_D A (mW cI cZ ad ln st gv (upd oF n fx) kF fF sF bF mF hF kp (nI n) m1 m2) := hD
                  refine lv_aload_n hx hb dX4_claim_193 rfl (lv_at hl 1 rfl) ?_
                  refine zq_get hx hb hts in_X4_claim_X4 hown hK hP 0 rfl rfl 6 (by decide) (hts _ w_X4_claim__fieldLink_RX4_23_WordsBesideModel_kind_I__cf4f2c) rfl dX4_claim_194 ?_
                  refine lv_aload_n hx hb dX4_claim_197 rfl (lv_at hl 1 rfl) ?_
                  refine zq_get hx hb hts in_X4_claim_X4 hown hK hP 0 rfl rfl 4 (by decide) (hts _ w_X4_claim__fieldLink_RX4_79_WordsBesideModel_claims_I__a0b76b) rfl dX4_claim_198 ?_
                  refine lv_iload_n hx hb dX4_claim_201 rfl (lv_at hl 3 rfl) ?_
                  refine zq_ist hx hb hK hP hD hS 5 rfl n rfl (by omega) (by decide) dX4_claim_202 (fun H locs hP hD hS => ?_)
                  have hP : va_P D vwCl (mW cI cZ ad ln st gv (upd oF n fx) (upd kF n kd) fF sF bF mF hF kp (nI n) m1 m2) H := hP
                  have hD : va_D A (mW cI cZ ad ln st gv (upd oF n fx) (upd kF n kd) fF sF bF mF hF kp (nI n) m1 m2) := hD
                  refine lv_aload_n hx hb dX4_claim_203 rfl (lv_at hl 1 rfl) ?_
                  refine zq_get hx hb hts in_X4_claim_X4 hown hK hP 0 rfl rfl 7 (by decide) (hts _ w_X4_claim__fieldLink_RX4_26_WordsBesideModel_first_I__de9671) rfl dX4_claim_204 ?_
                  refine lv_aload_n hx hb dX4_claim_207 rfl (lv_at hl 1 rfl) ?_
                  refine zq_get hx hb hts in_X4_claim_X4 hown hK hP 0 rfl rfl 4 (by decide) (hts _ w_X4_claim__fieldLink_RX4_79_WordsBesideModel_claims_I__a0b76b) rfl dX4_claim_208 ?_
                  refine lv_iload_n hx hb dX4_claim_211 rfl (lv_at hl 4 rfl) ?_
                  refine zq_ist hx hb hK hP hD hS 6 rfl n rfl (by omega) (by decide) dX4_claim_212 (fun H locs hP hD hS => ?_)
                  have hP : va_P D vwCl (mW cI cZ ad ln st gv (upd oF n fx) (upd kF n kd) (upd fF n p1) sF bF mF hF kp (nI n) m1 m2) H := hP
                  have hD : va_D A (mW cI cZ ad ln st gv (upd oF n fx) (upd kF n kd) (upd fF n p1) sF bF mF hF kp (nI n) m1 m2) := hD
                  refine lv_aload_n hx hb dX4_claim_213 rfl (lv_at hl 1 rfl) ?_
                  refine zq_get hx hb hts in_X4_claim_X4 hown hK hP 0 rfl rfl 8 (by decide) (hts _ w_X4_claim__fieldLink_RX4_29_WordsBesideModel_second_I__491129) rfl dX4_claim_214 ?_
                  refine lv_aload_n hx hb dX4_claim_217 rfl (lv_at hl 1 rfl) ?_
                  refine zq_get hx hb hts in_X4_claim_X4 hown hK hP 0 rfl rfl 4 (by decide) (hts _ w_X4_claim__fieldLink_RX4_79_WordsBesideModel_claims_I__a0b76b) rfl dX4_claim_218 ?_
                  refine lv_iload hx hb dX4_claim_221 (lv_at hl 5 rfl) ?_
                  refine zq_ist hx hb hK hP hD hS 7 rfl n rfl (by omega) (by decide) dX4_claim_223 (fun H locs hP hD hS => ?_)
                  have hP : va_P D vwCl (mW cI cZ ad ln st gv (upd oF n fx) (upd kF n kd) (upd fF n p1) (upd sF n q1) bF mF hF kp (nI n) m1 m2) H := hP
                  have hD : va_D A (mW cI cZ ad ln st gv (upd oF n fx) (upd kF n kd) (upd fF n p1) (upd sF n q1) bF mF hF kp (nI n) m1 m2) := hD
                  refine lv_aload_n hx hb dX4_claim_224 rfl (lv_at hl 1 rfl) ?_
                  refine zq_get hx hb hts in_X4_claim_X4 hown hK hP 0 rfl rfl 9 (by decide) (hts _ w_X4_claim__fieldLink_RX4_32_WordsBesideModel_base_I__b13283) rfl dX4_claim_225 ?_
                  refine lv_aload_n hx hb dX4_claim_228 rfl (lv_at hl 1 rfl) ?_
                  refine zq_get hx hb hts in_X4_claim_X4 hown hK hP 0 rfl rfl 4 (by decide) (hts _ w_X4_claim__fieldLink_RX4_79_WordsBesideModel_claims_I__a0b76b) rfl dX4_claim_229 ?_
                  refine lv_aload_n hx hb dX4_claim_232 rfl (lv_at hl 1 rfl) ?_
                  refine zq_get hx hb hts in_X4_claim_X4 hown hK hP 0 rfl rfl 2 (by decide) (hts _ w_X4_claim__fieldLink_RX4_75_WordsBesideModel_kept_I__b97d2f) rfl dX4_claim_233 ?_
                  refine zq_ist hx hb hK hP hD hS 8 rfl n rfl (by omega) (by decide) dX4_claim_236 (fun H locs hP hD hS => ?_)
                  have hP : va_P D vwCl (mW cI cZ ad ln st gv (upd oF n fx) (upd kF n kd) (upd fF n p1) (upd sF n q1) (upd bF n kp) mF hF kp (nI n) m1 m2) H := hP
                  have hD : va_D A (mW cI cZ ad ln st gv (upd oF n fx) (upd kF n kd) (upd fF n p1) (upd sF n q1) (upd bF n kp) mF hF kp (nI n) m1 m2) := hD
                  refine lv_aload_n hx hb dX4_claim_237 rfl (lv_at hl 1 rfl) ?_
                  refine lv_dup hx hb dX4_claim_238 rfl ?_
                  refine zq_get hx hb hts in_X4_claim_X4 hown hK hP 0 rfl rfl 4 (by decide) (hts _ w_X4_claim__fieldLink_RX4_79_WordsBesideModel_claims_I__a0b76b) rfl dX4_claim_239 ?_
                  refine lv_iconst (v := (nI 1)) hx hb dX4_claim_242 (by decide) ?_
                  refine lv_iadd hx hb dX4_claim_243 ?_
                  refine zq_te (y := (nI (n + 1))) (nI_add _ _) ?_
                  refine zq_put hx hb hts in_X4_claim_X4 tyX4 tyX4_ok nmX4 hown hK hP hD hS 0 rfl rfl 4 (by decide) (hts _ w_X4_claim__fieldLink_RX4_79_WordsBesideModel_claims_I__a0b76b) rfl rfl rfl (Nat.le_of_ble_eq_true rfl) dX4_claim_244 (fun H locs hP hD hS => ?_)
                  have hP : va_P D vwCl (mW cI cZ ad ln st gv (upd oF n fx) (upd kF n kd) (upd fF n p1) (upd sF n q1) (upd bF n kp) mF hF kp (nI (n + 1)) m1 m2) H := hP
                  have hD : va_D A (mW cI cZ ad ln st gv (upd oF n fx) (upd kF n kd) (upd fF n p1) (upd sF n q1) (upd bF n kp) mF hF kp (nI (n + 1)) m1 m2) := hD
                  refine lv_aload_n hx hb dX4_claim_247 rfl (lv_at hl 1 rfl) ?_
                  refine zq_get hx hb hts in_X4_claim_X4 hown hK hP 0 rfl rfl 4 (by decide) (hts _ w_X4_claim__fieldLink_RX4_79_WordsBesideModel_claims_I__a0b76b) rfl dX4_claim_248 ?_
                  refine lv_iconst (v := (nI 1)) hx hb dX4_claim_251 (by decide) ?_
                  refine lv_isub hx hb dX4_claim_252 ?_
                  refine zq_te (y := (nI n)) (pk_sub (by omega)) ?_
                  exact ret _ _ _ _ _ _ (Or.inl ⟨⟨hyf, Or.inr (Or.inr (Or.inr (Or.inl ⟨k32_3, hyi⟩))), by omega⟩, rfl, rfl⟩) hP hD hS dX4_claim_253
                · refine W.eq (g2 := F0 m 117 ls [.int (0 : Int32)]) rfl ?_
                  refine lv_istore (lv' := [(5, .int (0 : Int32)), (0, .ref (ad 0)), (1, .int fx), (2, .int kd), (3, .int p1), (4, .int q1)]) hx hb dX4_claim_117 hl (by decide) rfl (fun ls hl => ?_)
                  refine lv_goto (tgt := 176) hx hb dX4_claim_119 (by decide) ?_
                  refine lv_iload hx hb dX4_claim_176 (lv_at hl 0 rfl) ?_
                  refine lv_if_ne (tgt := 183) hx hb dX4_claim_178 (by decide) (fun c178 => absurd c178 (by decide)) (fun c178 => ?_)
                  refine lv_iconst (v := (-1 : Int32)) hx hb dX4_claim_181 (by decide) ?_
                  exact ret _ _ _ _ _ _ (Or.inr ⟨(fun q => by rw [k32_3] at q; rcases q.2.1 with z | z | z | z | z | z | z | z <;> first | exact absurd z (by decide) | exact absurd z.1 (by decide) | (exact hyi z.2) | fail "open"), rfl, rfl⟩) hP hD hS dX4_claim_182
              · by_cases k32_4 : kd = (4 : Int32)
                · refine lv_tableIn (tgt := 176) hx hb dX4_claim_32 (by rw [k32_4]; decide) (by rw [k32_4]; decide) (by rw [k32_4]; rfl) (by decide) ?_
                  refine lv_iload hx hb dX4_claim_176 (lv_at hl 0 rfl) ?_
                  refine lv_if_ne (tgt := 183) hx hb dX4_claim_178 (by decide) (fun c178 => ?_) (fun c178 => absurd c178 (by decide))
                  refine lv_aload_n hx hb dX4_claim_183 rfl (lv_at hl 1 rfl) ?_
                  refine zq_get hx hb hts in_X4_claim_X4 hown hK hP 0 rfl rfl 5 (by decide) (hts _ w_X4_claim__fieldLink_RX4_20_WordsBesideModel_of_I__9fac8e) rfl dX4_claim_184 ?_
                  refine lv_aload_n hx hb dX4_claim_187 rfl (lv_at hl 1 rfl) ?_
                  refine zq_get hx hb hts in_X4_claim_X4 hown hK hP 0 rfl rfl 4 (by decide) (hts _ w_X4_claim__fieldLink_RX4_79_WordsBesideModel_claims_I__a0b76b) rfl dX4_claim_188 ?_
                  refine lv_iload_n hx hb dX4_claim_191 rfl (lv_at hl 2 rfl) ?_
                  refine zq_ist hx hb hK hP hD hS 4 rfl n rfl (by omega) (by decide) dX4_claim_192 (fun H locs hP hD hS => ?_)
                  have hP : va_P D vwCl (mW cI cZ ad ln st gv (upd oF n fx) kF fF sF bF mF hF kp (nI n) m1 m2) H := hP
                  have hD : va_D A (mW cI cZ ad ln st gv (upd oF n fx) kF fF sF bF mF hF kp (nI n) m1 m2) := hD
                  refine lv_aload_n hx hb dX4_claim_193 rfl (lv_at hl 1 rfl) ?_
                  refine zq_get hx hb hts in_X4_claim_X4 hown hK hP 0 rfl rfl 6 (by decide) (hts _ w_X4_claim__fieldLink_RX4_23_WordsBesideModel_kind_I__cf4f2c) rfl dX4_claim_194 ?_
                  refine lv_aload_n hx hb dX4_claim_197 rfl (lv_at hl 1 rfl) ?_
                  refine zq_get hx hb hts in_X4_claim_X4 hown hK hP 0 rfl rfl 4 (by decide) (hts _ w_X4_claim__fieldLink_RX4_79_WordsBesideModel_claims_I__a0b76b) rfl dX4_claim_198 ?_
                  refine lv_iload_n hx hb dX4_claim_201 rfl (lv_at hl 3 rfl) ?_
                  refine zq_ist hx hb hK hP hD hS 5 rfl n rfl (by omega) (by decide) dX4_claim_202 (fun H locs hP hD hS => ?_)
                  have hP : va_P D vwCl (mW cI cZ ad ln st gv (upd oF n fx) (upd kF n kd) fF sF bF mF hF kp (nI n) m1 m2) H := hP
                  have hD : va_D A (mW cI cZ ad ln st gv (upd oF n fx) (upd kF n kd) fF sF bF mF hF kp (nI n) m1 m2) := hD
                  refine lv_aload_n hx hb dX4_claim_203 rfl (lv_at hl 1 rfl) ?_
                  refine zq_get hx hb hts in_X4_claim_X4 hown hK hP 0 rfl rfl 7 (by decide) (hts _ w_X4_claim__fieldLink_RX4_26_WordsBesideModel_first_I__de9671) rfl dX4_claim_204 ?_
                  refine lv_aload_n hx hb dX4_claim_207 rfl (lv_at hl 1 rfl) ?_
                  refine zq_get hx hb hts in_X4_claim_X4 hown hK hP 0 rfl rfl 4 (by decide) (hts _ w_X4_claim__fieldLink_RX4_79_WordsBesideModel_claims_I__a0b76b) rfl dX4_claim_208 ?_
                  refine lv_iload_n hx hb dX4_claim_211 rfl (lv_at hl 4 rfl) ?_
                  refine zq_ist hx hb hK hP hD hS 6 rfl n rfl (by omega) (by decide) dX4_claim_212 (fun H locs hP hD hS => ?_)
                  have hP : va_P D vwCl (mW cI cZ ad ln st gv (upd oF n fx) (upd kF n kd) (upd fF n p1) sF bF mF hF kp (nI n) m1 m2) H := hP
                  have hD : va_D A (mW cI cZ ad ln st gv (upd oF n fx) (upd kF n kd) (upd fF n p1) sF bF mF hF kp (nI n) m1 m2) := hD
                  refine lv_aload_n hx hb dX4_claim_213 rfl (lv_at hl 1 rfl) ?_
                  refine zq_get hx hb hts in_X4_claim_X4 hown hK hP 0 rfl rfl 8 (by decide) (hts _ w_X4_claim__fieldLink_RX4_29_WordsBesideModel_second_I__491129) rfl dX4_claim_214 ?_
                  refine lv_aload_n hx hb dX4_claim_217 rfl (lv_at hl 1 rfl) ?_
                  refine zq_get hx hb hts in_X4_claim_X4 hown hK hP 0 rfl rfl 4 (by decide) (hts _ w_X4_claim__fieldLink_RX4_79_WordsBesideModel_claims_I__a0b76b) rfl dX4_claim_218 ?_
                  refine lv_iload hx hb dX4_claim_221 (lv_at hl 5 rfl) ?_
                  refine zq_ist hx hb hK hP hD hS 7 rfl n rfl (by omega) (by decide) dX4_claim_223 (fun H locs hP hD hS => ?_)
                  have hP : va_P D vwCl (mW cI cZ ad ln st gv (upd oF n fx) (upd kF n kd) (upd fF n p1) (upd sF n q1) bF mF hF kp (nI n) m1 m2) H := hP
                  have hD : va_D A (mW cI cZ ad ln st gv (upd oF n fx) (upd kF n kd) (upd fF n p1) (upd sF n q1) bF mF hF kp (nI n) m1 m2) := hD
                  refine lv_aload_n hx hb dX4_claim_224 rfl (lv_at hl 1 rfl) ?_
                  refine zq_get hx hb hts in_X4_claim_X4 hown hK hP 0 rfl rfl 9 (by decide) (hts _ w_X4_claim__fieldLink_RX4_32_WordsBesideModel_base_I__b13283) rfl dX4_claim_225 ?_
                  refine lv_aload_n hx hb dX4_claim_228 rfl (lv_at hl 1 rfl) ?_
                  refine zq_get hx hb hts in_X4_claim_X4 hown hK hP 0 rfl rfl 4 (by decide) (hts _ w_X4_claim__fieldLink_RX4_79_WordsBesideModel_claims_I__a0b76b) rfl dX4_claim_229 ?_
                  refine lv_aload_n hx hb dX4_claim_232 rfl (lv_at hl 1 rfl) ?_
                  refine zq_get hx hb hts in_X4_claim_X4 hown hK hP 0 rfl rfl 2 (by decide) (hts _ w_X4_claim__fieldLink_RX4_75_WordsBesideModel_kept_I__b97d2f) rfl dX4_claim_233 ?_
                  refine zq_ist hx hb hK hP hD hS 8 rfl n rfl (by omega) (by decide) dX4_claim_236 (fun H locs hP hD hS => ?_)
                  have hP : va_P D vwCl (mW cI cZ ad ln st gv (upd oF n fx) (upd kF n kd) (upd fF n p1) (upd sF n q1) (upd bF n kp) mF hF kp (nI n) m1 m2) H := hP
                  have hD : va_D A (mW cI cZ ad ln st gv (upd oF n fx) (upd kF n kd) (upd fF n p1) (upd sF n q1) (upd bF n kp) mF hF kp (nI n) m1 m2) := hD
                  refine lv_aload_n hx hb dX4_claim_237 rfl (lv_at hl 1 rfl) ?_
                  refine lv_dup hx hb dX4_claim_238 rfl ?_
                  refine zq_get hx hb hts in_X4_claim_X4 hown hK hP 0 rfl rfl 4 (by decide) (hts _ w_X4_claim__fieldLink_RX4_79_WordsBesideModel_claims_I__a0b76b) rfl dX4_claim_239 ?_
                  refine lv_iconst (v := (nI 1)) hx hb dX4_claim_242 (by decide) ?_
                  refine lv_iadd hx hb dX4_claim_243 ?_
                  refine zq_te (y := (nI (n + 1))) (nI_add _ _) ?_
                  refine zq_put hx hb hts in_X4_claim_X4 tyX4 tyX4_ok nmX4 hown hK hP hD hS 0 rfl rfl 4 (by decide) (hts _ w_X4_claim__fieldLink_RX4_79_WordsBesideModel_claims_I__a0b76b) rfl rfl rfl (Nat.le_of_ble_eq_true rfl) dX4_claim_244 (fun H locs hP hD hS => ?_)
                  have hP : va_P D vwCl (mW cI cZ ad ln st gv (upd oF n fx) (upd kF n kd) (upd fF n p1) (upd sF n q1) (upd bF n kp) mF hF kp (nI (n + 1)) m1 m2) H := hP
                  have hD : va_D A (mW cI cZ ad ln st gv (upd oF n fx) (upd kF n kd) (upd fF n p1) (upd sF n q1) (upd bF n kp) mF hF kp (nI (n + 1)) m1 m2) := hD
                  refine lv_aload_n hx hb dX4_claim_247 rfl (lv_at hl 1 rfl) ?_
                  refine zq_get hx hb hts in_X4_claim_X4 hown hK hP 0 rfl rfl 4 (by decide) (hts _ w_X4_claim__fieldLink_RX4_79_WordsBesideModel_claims_I__a0b76b) rfl dX4_claim_248 ?_
                  refine lv_iconst (v := (nI 1)) hx hb dX4_claim_251 (by decide) ?_
                  refine lv_isub hx hb dX4_claim_252 ?_
                  refine zq_te (y := (nI n)) (pk_sub (by omega)) ?_
                  exact ret _ _ _ _ _ _ (Or.inl ⟨⟨hyf, Or.inr (Or.inr (Or.inr (Or.inr (Or.inl k32_4)))), by omega⟩, rfl, rfl⟩) hP hD hS dX4_claim_253
                · by_cases k32_5 : kd = (5 : Int32)
                  · refine lv_tableIn (tgt := 122) hx hb dX4_claim_32 (by rw [k32_5]; decide) (by rw [k32_5]; decide) (by rw [k32_5]; rfl) (by decide) ?_
                    refine lv_iload_n hx hb dX4_claim_122 rfl (lv_at hl 4 rfl) ?_
                    refine lv_iconst (v := (0 : Int32)) hx hb dX4_claim_123 (by decide) ?_
                    refine lv_sipush (v := (nI 255)) hx hb dX4_claim_124 (by decide) ?_
                    refine zq_cS (rest := []) ⟨hx, hb, hml, hown, hts⟩ (cz_X4_in l D cI cZ cW cC p1 255 (by omega)) (va_cwS 3 hts gX4_claim_X4_in rfl rfl rfl (by decide +kernel) ⟨Nat.le_of_ble_eq_true rfl, Nat.le_of_ble_eq_true rfl⟩) hK (fun k q h => by simp at h) rfl hl.1 rfl (Nat.le_of_ble_eq_true rfl) dX4_claim_127 ⟨Nat.le_of_ble_eq_true rfl, Nat.le_of_ble_eq_true rfl⟩ (fun v hv => ?_)
                    rcases hv with ⟨rfl, hy256⟩ | ⟨rfl, hy256⟩
                    · refine W.eq (g2 := F0 m 130 ls [.int (1 : Int32)]) rfl ?_
                      refine lv_if_eq (tgt := 149) hx hb dX4_claim_130 (by decide) (fun c130 => absurd c130 (by decide)) (fun c130 => ?_)
                      refine lv_iload hx hb dX4_claim_133 (lv_at hl 5 rfl) ?_
                      refine lv_ldc (v := (-1000000 : Int32)) hx hb hown (hts _ w_X4_claim__constant_RX4_82_1000000__0118b9) dX4_claim_135 ?_
                      refine lv_ldc (v := (1000000 : Int32)) hx hb hown (hts _ w_X4_claim__constant_RX4_83_1000000__4cda48) dX4_claim_137 ?_
                      refine zq_cS (rest := []) ⟨hx, hb, hml, hown, hts⟩ (c_X4_in l D cI cZ cW cC q1 (-1000000) 1000000) (va_cwS 3 hts gX4_claim_X4_in rfl rfl rfl (by decide +kernel) ⟨Nat.le_of_ble_eq_true rfl, Nat.le_of_ble_eq_true rfl⟩) hK (fun k q h => by simp at h) rfl hl.1 rfl (Nat.le_of_ble_eq_true rfl) dX4_claim_139 ⟨Nat.le_of_ble_eq_true rfl, Nat.le_of_ble_eq_true rfl⟩ (fun v hv => ?_)
                      rcases hv with ⟨rfl, hyi⟩ | ⟨rfl, hyi⟩
                      · refine W.eq (g2 := F0 m 142 ls [.int (1 : Int32)]) rfl ?_
                        refine lv_if_eq (tgt := 149) hx hb dX4_claim_142 (by decide) (fun c142 => absurd c142 (by decide)) (fun c142 => ?_)
                        refine lv_iconst (v := (1 : Int32)) hx hb dX4_claim_145 (by decide) ?_
                        refine lv_goto (tgt := 150) hx hb dX4_claim_146 (by decide) ?_
                        refine lv_istore (lv' := [(5, .int (1 : Int32)), (0, .ref (ad 0)), (1, .int fx), (2, .int kd), (3, .int p1), (4, .int q1)]) hx hb dX4_claim_150 hl (by decide) rfl (fun ls hl => ?_)
                        refine lv_goto (tgt := 176) hx hb dX4_claim_152 (by decide) ?_
                        refine lv_iload hx hb dX4_claim_176 (lv_at hl 0 rfl) ?_
                        refine lv_if_ne (tgt := 183) hx hb dX4_claim_178 (by decide) (fun c178 => ?_) (fun c178 => absurd c178 (by decide))
                        refine lv_aload_n hx hb dX4_claim_183 rfl (lv_at hl 1 rfl) ?_
                        refine zq_get hx hb hts in_X4_claim_X4 hown hK hP 0 rfl rfl 5 (by decide) (hts _ w_X4_claim__fieldLink_RX4_20_WordsBesideModel_of_I__9fac8e) rfl dX4_claim_184 ?_
                        refine lv_aload_n hx hb dX4_claim_187 rfl (lv_at hl 1 rfl) ?_
                        refine zq_get hx hb hts in_X4_claim_X4 hown hK hP 0 rfl rfl 4 (by decide) (hts _ w_X4_claim__fieldLink_RX4_79_WordsBesideModel_claims_I__a0b76b) rfl dX4_claim_188 ?_
                        refine lv_iload_n hx hb dX4_claim_191 rfl (lv_at hl 2 rfl) ?_
                        refine zq_ist hx hb hK hP hD hS 4 rfl n rfl (by omega) (by decide) dX4_claim_192 (fun H locs hP hD hS => ?_)
                        have hP : va_P D vwCl (mW cI cZ ad ln st gv (upd oF n fx) kF fF sF bF mF hF kp (nI n) m1 m2) H := hP
                        have hD : va_D A (mW cI cZ ad ln st gv (upd oF n fx) kF fF sF bF mF hF kp (nI n) m1 m2) := hD
                        refine lv_aload_n hx hb dX4_claim_193 rfl (lv_at hl 1 rfl) ?_
                        refine zq_get hx hb hts in_X4_claim_X4 hown hK hP 0 rfl rfl 6 (by decide) (hts _ w_X4_claim__fieldLink_RX4_23_WordsBesideModel_kind_I__cf4f2c) rfl dX4_claim_194 ?_
                        refine lv_aload_n hx hb dX4_claim_197 rfl (lv_at hl 1 rfl) ?_
                        refine zq_get hx hb hts in_X4_claim_X4 hown hK hP 0 rfl rfl 4 (by decide) (hts _ w_X4_claim__fieldLink_RX4_79_WordsBesideModel_claims_I__a0b76b) rfl dX4_claim_198 ?_
                        refine lv_iload_n hx hb dX4_claim_201 rfl (lv_at hl 3 rfl) ?_
                        refine zq_ist hx hb hK hP hD hS 5 rfl n rfl (by omega) (by decide) dX4_claim_202 (fun H locs hP hD hS => ?_)
                        have hP : va_P D vwCl (mW cI cZ ad ln st gv (upd oF n fx) (upd kF n kd) fF sF bF mF hF kp (nI n) m1 m2) H := hP
                        have hD : va_D A (mW cI cZ ad ln st gv (upd oF n fx) (upd kF n kd) fF sF bF mF hF kp (nI n) m1 m2) := hD
                        refine lv_aload_n hx hb dX4_claim_203 rfl (lv_at hl 1 rfl) ?_
                        refine zq_get hx hb hts in_X4_claim_X4 hown hK hP 0 rfl rfl 7 (by decide) (hts _ w_X4_claim__fieldLink_RX4_26_WordsBesideModel_first_I__de9671) rfl dX4_claim_204 ?_
                        refine lv_aload_n hx hb dX4_claim_207 rfl (lv_at hl 1 rfl) ?_
                        refine zq_get hx hb hts in_X4_claim_X4 hown hK hP 0 rfl rfl 4 (by decide) (hts _ w_X4_claim__fieldLink_RX4_79_WordsBesideModel_claims_I__a0b76b) rfl dX4_claim_208 ?_
                        refine lv_iload_n hx hb dX4_claim_211 rfl (lv_at hl 4 rfl) ?_
                        refine zq_ist hx hb hK hP hD hS 6 rfl n rfl (by omega) (by decide) dX4_claim_212 (fun H locs hP hD hS => ?_)
                        have hP : va_P D vwCl (mW cI cZ ad ln st gv (upd oF n fx) (upd kF n kd) (upd fF n p1) sF bF mF hF kp (nI n) m1 m2) H := hP
                        have hD : va_D A (mW cI cZ ad ln st gv (upd oF n fx) (upd kF n kd) (upd fF n p1) sF bF mF hF kp (nI n) m1 m2) := hD
                        refine lv_aload_n hx hb dX4_claim_213 rfl (lv_at hl 1 rfl) ?_
                        refine zq_get hx hb hts in_X4_claim_X4 hown hK hP 0 rfl rfl 8 (by decide) (hts _ w_X4_claim__fieldLink_RX4_29_WordsBesideModel_second_I__491129) rfl dX4_claim_214 ?_
                        refine lv_aload_n hx hb dX4_claim_217 rfl (lv_at hl 1 rfl) ?_
                        refine zq_get hx hb hts in_X4_claim_X4 hown hK hP 0 rfl rfl 4 (by decide) (hts _ w_X4_claim__fieldLink_RX4_79_WordsBesideModel_claims_I__a0b76b) rfl dX4_claim_218 ?_
                        refine lv_iload hx hb dX4_claim_221 (lv_at hl 5 rfl) ?_
                        refine zq_ist hx hb hK hP hD hS 7 rfl n rfl (by omega) (by decide) dX4_claim_223 (fun H locs hP hD hS => ?_)
                        have hP : va_P D vwCl (mW cI cZ ad ln st gv (upd oF n fx) (upd kF n kd) (upd fF n p1) (upd sF n q1) bF mF hF kp (nI n) m1 m2) H := hP
                        have hD : va_D A (mW cI cZ ad ln st gv (upd oF n fx) (upd kF n kd) (upd fF n p1) (upd sF n q1) bF mF hF kp (nI n) m1 m2) := hD
                        refine lv_aload_n hx hb dX4_claim_224 rfl (lv_at hl 1 rfl) ?_
                        refine zq_get hx hb hts in_X4_claim_X4 hown hK hP 0 rfl rfl 9 (by decide) (hts _ w_X4_claim__fieldLink_RX4_32_WordsBesideModel_base_I__b13283) rfl dX4_claim_225 ?_
                        refine lv_aload_n hx hb dX4_claim_228 rfl (lv_at hl 1 rfl) ?_
                        refine zq_get hx hb hts in_X4_claim_X4 hown hK hP 0 rfl rfl 4 (by decide) (hts _ w_X4_claim__fieldLink_RX4_79_WordsBesideModel_claims_I__a0b76b) rfl dX4_claim_229 ?_
                        refine lv_aload_n hx hb dX4_claim_232 rfl (lv_at hl 1 rfl) ?_
                        refine zq_get hx hb hts in_X4_claim_X4 hown hK hP 0 rfl rfl 2 (by decide) (hts _ w_X4_claim__fieldLink_RX4_75_WordsBesideModel_kept_I__b97d2f) rfl dX4_claim_233 ?_
                        refine zq_ist hx hb hK hP hD hS 8 rfl n rfl (by omega) (by decide) dX4_claim_236 (fun H locs hP hD hS => ?_)
                        have hP : va_P D vwCl (mW cI cZ ad ln st gv (upd oF n fx) (upd kF n kd) (upd fF n p1) (upd sF n q1) (upd bF n kp) mF hF kp (nI n) m1 m2) H := hP
                        have hD : va_D A (mW cI cZ ad ln st gv (upd oF n fx) (upd kF n kd) (upd fF n p1) (upd sF n q1) (upd bF n kp) mF hF kp (nI n) m1 m2) := hD
                        refine lv_aload_n hx hb dX4_claim_237 rfl (lv_at hl 1 rfl) ?_
                        refine lv_dup hx hb dX4_claim_238 rfl ?_
                        refine zq_get hx hb hts in_X4_claim_X4 hown hK hP 0 rfl rfl 4 (by decide) (hts _ w_X4_claim__fieldLink_RX4_79_WordsBesideModel_claims_I__a0b76b) rfl dX4_claim_239 ?_
                        refine lv_iconst (v := (nI 1)) hx hb dX4_claim_242 (by decide) ?_
                        refine lv_iadd hx hb dX4_claim_243 ?_
                        refine zq_te (y := (nI (n + 1))) (nI_add _ _) ?_
                        refine zq_put hx hb hts in_X4_claim_X4 tyX4 tyX4_ok nmX4 hown hK hP hD hS 0 rfl rfl 4 (by decide) (hts _ w_X4_claim__fieldLink_RX4_79_WordsBesideModel_claims_I__a0b76b) rfl rfl rfl (Nat.le_of_ble_eq_true rfl) dX4_claim_244 (fun H locs hP hD hS => ?_)
                        have hP : va_P D vwCl (mW cI cZ ad ln st gv (upd oF n fx) (upd kF n kd) (upd fF n p1) (upd sF n q1) (upd bF n kp) mF hF kp (nI (n + 1)) m1 m2) H := hP
                        have hD : va_D A (mW cI cZ ad ln st gv (upd oF n fx) (upd kF n kd) (upd fF n p1) (upd sF n q1) (upd bF n kp) mF hF kp (nI (n + 1)) m1 m2) := hD
                        refine lv_aload_n hx hb dX4_claim_247 rfl (lv_at hl 1 rfl) ?_
                        refine zq_get hx hb hts in_X4_claim_X4 hown hK hP 0 rfl rfl 4 (by decide) (hts _ w_X4_claim__fieldLink_RX4_79_WordsBesideModel_claims_I__a0b76b) rfl dX4_claim_248 ?_
                        refine lv_iconst (v := (nI 1)) hx hb dX4_claim_251 (by decide) ?_
                        refine lv_isub hx hb dX4_claim_252 ?_
                        refine zq_te (y := (nI n)) (pk_sub (by omega)) ?_
                        exact ret _ _ _ _ _ _ (Or.inl ⟨⟨hyf, Or.inr (Or.inr (Or.inr (Or.inr (Or.inr (Or.inl ⟨k32_5, hy256, hyi⟩))))), by omega⟩, rfl, rfl⟩) hP hD hS dX4_claim_253
                      · refine W.eq (g2 := F0 m 142 ls [.int (0 : Int32)]) rfl ?_
                        refine lv_if_eq (tgt := 149) hx hb dX4_claim_142 (by decide) (fun c142 => ?_) (fun c142 => absurd c142 (by decide))
                        refine lv_iconst (v := (0 : Int32)) hx hb dX4_claim_149 (by decide) ?_
                        refine lv_istore (lv' := [(5, .int (0 : Int32)), (0, .ref (ad 0)), (1, .int fx), (2, .int kd), (3, .int p1), (4, .int q1)]) hx hb dX4_claim_150 hl (by decide) rfl (fun ls hl => ?_)
                        refine lv_goto (tgt := 176) hx hb dX4_claim_152 (by decide) ?_
                        refine lv_iload hx hb dX4_claim_176 (lv_at hl 0 rfl) ?_
                        refine lv_if_ne (tgt := 183) hx hb dX4_claim_178 (by decide) (fun c178 => absurd c178 (by decide)) (fun c178 => ?_)
                        refine lv_iconst (v := (-1 : Int32)) hx hb dX4_claim_181 (by decide) ?_
                        exact ret _ _ _ _ _ _ (Or.inr ⟨(fun q => by rw [k32_5] at q; rcases q.2.1 with z | z | z | z | z | z | z | z <;> first | exact absurd z (by decide) | exact absurd z.1 (by decide) | (exact hyi z.2.2) | fail "open"), rfl, rfl⟩) hP hD hS dX4_claim_182
                    · refine W.eq (g2 := F0 m 130 ls [.int (0 : Int32)]) rfl ?_
                      refine lv_if_eq (tgt := 149) hx hb dX4_claim_130 (by decide) (fun c130 => ?_) (fun c130 => absurd c130 (by decide))
                      refine lv_iconst (v := (0 : Int32)) hx hb dX4_claim_149 (by decide) ?_
                      refine lv_istore (lv' := [(5, .int (0 : Int32)), (0, .ref (ad 0)), (1, .int fx), (2, .int kd), (3, .int p1), (4, .int q1)]) hx hb dX4_claim_150 hl (by decide) rfl (fun ls hl => ?_)
                      refine lv_goto (tgt := 176) hx hb dX4_claim_152 (by decide) ?_
                      refine lv_iload hx hb dX4_claim_176 (lv_at hl 0 rfl) ?_
                      refine lv_if_ne (tgt := 183) hx hb dX4_claim_178 (by decide) (fun c178 => absurd c178 (by decide)) (fun c178 => ?_)
                      refine lv_iconst (v := (-1 : Int32)) hx hb dX4_claim_181 (by decide) ?_
                      exact ret _ _ _ _ _ _ (Or.inr ⟨(fun q => by rw [k32_5] at q; rcases q.2.1 with z | z | z | z | z | z | z | z <;> first | exact absurd z (by decide) | exact absurd z.1 (by decide) | (exact hy256 z.2.1) | fail "open"), rfl, rfl⟩) hP hD hS dX4_claim_182
                  · by_cases k32_6 : kd = (6 : Int32)
                    · refine lv_tableIn (tgt := 155) hx hb dX4_claim_32 (by rw [k32_6]; decide) (by rw [k32_6]; decide) (by rw [k32_6]; rfl) (by decide) ?_
                      refine lv_iload_n hx hb dX4_claim_155 rfl (lv_at hl 4 rfl) ?_
                      refine lv_iconst (v := (0 : Int32)) hx hb dX4_claim_156 (by decide) ?_
                      refine lv_bipush (v := (nI 16)) hx hb dX4_claim_157 (by decide) ?_
                      refine zq_cS (rest := []) ⟨hx, hb, hml, hown, hts⟩ (cz_X4_in l D cI cZ cW cC p1 16 (by omega)) (va_cwS 3 hts gX4_claim_X4_in rfl rfl rfl (by decide +kernel) ⟨Nat.le_of_ble_eq_true rfl, Nat.le_of_ble_eq_true rfl⟩) hK (fun k q h => by simp at h) rfl hl.1 rfl (Nat.le_of_ble_eq_true rfl) dX4_claim_159 ⟨Nat.le_of_ble_eq_true rfl, Nat.le_of_ble_eq_true rfl⟩ (fun v hv => ?_)
                      rcases hv with ⟨rfl, hy17⟩ | ⟨rfl, hy17⟩
                      · refine W.eq (g2 := F0 m 162 ls [.int (1 : Int32)]) rfl ?_
                        refine lv_istore (lv' := [(5, .int (1 : Int32)), (0, .ref (ad 0)), (1, .int fx), (2, .int kd), (3, .int p1), (4, .int q1)]) hx hb dX4_claim_162 hl (by decide) rfl (fun ls hl => ?_)
                        refine lv_goto (tgt := 176) hx hb dX4_claim_164 (by decide) ?_
                        refine lv_iload hx hb dX4_claim_176 (lv_at hl 0 rfl) ?_
                        refine lv_if_ne (tgt := 183) hx hb dX4_claim_178 (by decide) (fun c178 => ?_) (fun c178 => absurd c178 (by decide))
                        refine lv_aload_n hx hb dX4_claim_183 rfl (lv_at hl 1 rfl) ?_
                        refine zq_get hx hb hts in_X4_claim_X4 hown hK hP 0 rfl rfl 5 (by decide) (hts _ w_X4_claim__fieldLink_RX4_20_WordsBesideModel_of_I__9fac8e) rfl dX4_claim_184 ?_
                        refine lv_aload_n hx hb dX4_claim_187 rfl (lv_at hl 1 rfl) ?_
                        refine zq_get hx hb hts in_X4_claim_X4 hown hK hP 0 rfl rfl 4 (by decide) (hts _ w_X4_claim__fieldLink_RX4_79_WordsBesideModel_claims_I__a0b76b) rfl dX4_claim_188 ?_
                        refine lv_iload_n hx hb dX4_claim_191 rfl (lv_at hl 2 rfl) ?_
                        refine zq_ist hx hb hK hP hD hS 4 rfl n rfl (by omega) (by decide) dX4_claim_192 (fun H locs hP hD hS => ?_)
                        have hP : va_P D vwCl (mW cI cZ ad ln st gv (upd oF n fx) kF fF sF bF mF hF kp (nI n) m1 m2) H := hP
                        have hD : va_D A (mW cI cZ ad ln st gv (upd oF n fx) kF fF sF bF mF hF kp (nI n) m1 m2) := hD
                        refine lv_aload_n hx hb dX4_claim_193 rfl (lv_at hl 1 rfl) ?_
                        refine zq_get hx hb hts in_X4_claim_X4 hown hK hP 0 rfl rfl 6 (by decide) (hts _ w_X4_claim__fieldLink_RX4_23_WordsBesideModel_kind_I__cf4f2c) rfl dX4_claim_194 ?_
                        refine lv_aload_n hx hb dX4_claim_197 rfl (lv_at hl 1 rfl) ?_
                        refine zq_get hx hb hts in_X4_claim_X4 hown hK hP 0 rfl rfl 4 (by decide) (hts _ w_X4_claim__fieldLink_RX4_79_WordsBesideModel_claims_I__a0b76b) rfl dX4_claim_198 ?_
                        refine lv_iload_n hx hb dX4_claim_201 rfl (lv_at hl 3 rfl) ?_
                        refine zq_ist hx hb hK hP hD hS 5 rfl n rfl (by omega) (by decide) dX4_claim_202 (fun H locs hP hD hS => ?_)
                        have hP : va_P D vwCl (mW cI cZ ad ln st gv (upd oF n fx) (upd kF n kd) fF sF bF mF hF kp (nI n) m1 m2) H := hP
                        have hD : va_D A (mW cI cZ ad ln st gv (upd oF n fx) (upd kF n kd) fF sF bF mF hF kp (nI n) m1 m2) := hD
                        refine lv_aload_n hx hb dX4_claim_203 rfl (lv_at hl 1 rfl) ?_
                        refine zq_get hx hb hts in_X4_claim_X4 hown hK hP 0 rfl rfl 7 (by decide) (hts _ w_X4_claim__fieldLink_RX4_26_WordsBesideModel_first_I__de9671) rfl dX4_claim_204 ?_
                        refine lv_aload_n hx hb dX4_claim_207 rfl (lv_at hl 1 rfl) ?_
                        refine zq_get hx hb hts in_X4_claim_X4 hown hK hP 0 rfl rfl 4 (by decide) (hts _ w_X4_claim__fieldLink_RX4_79_WordsBesideModel_claims_I__a0b76b) rfl dX4_claim_208 ?_
                        refine lv_iload_n hx hb dX4_claim_211 rfl (lv_at hl 4 rfl) ?_
                        refine zq_ist hx hb hK hP hD hS 6 rfl n rfl (by omega) (by decide) dX4_claim_212 (fun H locs hP hD hS => ?_)
                        have hP : va_P D vwCl (mW cI cZ ad ln st gv (upd oF n fx) (upd kF n kd) (upd fF n p1) sF bF mF hF kp (nI n) m1 m2) H := hP
                        have hD : va_D A (mW cI cZ ad ln st gv (upd oF n fx) (upd kF n kd) (upd fF n p1) sF bF mF hF kp (nI n) m1 m2) := hD
                        refine lv_aload_n hx hb dX4_claim_213 rfl (lv_at hl 1 rfl) ?_
                        refine zq_get hx hb hts in_X4_claim_X4 hown hK hP 0 rfl rfl 8 (by decide) (hts _ w_X4_claim__fieldLink_RX4_29_WordsBesideModel_second_I__491129) rfl dX4_claim_214 ?_
                        refine lv_aload_n hx hb dX4_claim_217 rfl (lv_at hl 1 rfl) ?_
                        refine zq_get hx hb hts in_X4_claim_X4 hown hK hP 0 rfl rfl 4 (by decide) (hts _ w_X4_claim__fieldLink_RX4_79_WordsBesideModel_claims_I__a0b76b) rfl dX4_claim_218 ?_
                        refine lv_iload hx hb dX4_claim_221 (lv_at hl 5 rfl) ?_
                        refine zq_ist hx hb hK hP hD hS 7 rfl n rfl (by omega) (by decide) dX4_claim_223 (fun H locs hP hD hS => ?_)
                        have hP : va_P D vwCl (mW cI cZ ad ln st gv (upd oF n fx) (upd kF n kd) (upd fF n p1) (upd sF n q1) bF mF hF kp (nI n) m1 m2) H := hP
                        have hD : va_D A (mW cI cZ ad ln st gv (upd oF n fx) (upd kF n kd) (upd fF n p1) (upd sF n q1) bF mF hF kp (nI n) m1 m2) := hD
                        refine lv_aload_n hx hb dX4_claim_224 rfl (lv_at hl 1 rfl) ?_
                        refine zq_get hx hb hts in_X4_claim_X4 hown hK hP 0 rfl rfl 9 (by decide) (hts _ w_X4_claim__fieldLink_RX4_32_WordsBesideModel_base_I__b13283) rfl dX4_claim_225 ?_
                        refine lv_aload_n hx hb dX4_claim_228 rfl (lv_at hl 1 rfl) ?_
                        refine zq_get hx hb hts in_X4_claim_X4 hown hK hP 0 rfl rfl 4 (by decide) (hts _ w_X4_claim__fieldLink_RX4_79_WordsBesideModel_claims_I__a0b76b) rfl dX4_claim_229 ?_
                        refine lv_aload_n hx hb dX4_claim_232 rfl (lv_at hl 1 rfl) ?_
                        refine zq_get hx hb hts in_X4_claim_X4 hown hK hP 0 rfl rfl 2 (by decide) (hts _ w_X4_claim__fieldLink_RX4_75_WordsBesideModel_kept_I__b97d2f) rfl dX4_claim_233 ?_
                        refine zq_ist hx hb hK hP hD hS 8 rfl n rfl (by omega) (by decide) dX4_claim_236 (fun H locs hP hD hS => ?_)
                        have hP : va_P D vwCl (mW cI cZ ad ln st gv (upd oF n fx) (upd kF n kd) (upd fF n p1) (upd sF n q1) (upd bF n kp) mF hF kp (nI n) m1 m2) H := hP
                        have hD : va_D A (mW cI cZ ad ln st gv (upd oF n fx) (upd kF n kd) (upd fF n p1) (upd sF n q1) (upd bF n kp) mF hF kp (nI n) m1 m2) := hD
                        refine lv_aload_n hx hb dX4_claim_237 rfl (lv_at hl 1 rfl) ?_
                        refine lv_dup hx hb dX4_claim_238 rfl ?_
                        refine zq_get hx hb hts in_X4_claim_X4 hown hK hP 0 rfl rfl 4 (by decide) (hts _ w_X4_claim__fieldLink_RX4_79_WordsBesideModel_claims_I__a0b76b) rfl dX4_claim_239 ?_
                        refine lv_iconst (v := (nI 1)) hx hb dX4_claim_242 (by decide) ?_
                        refine lv_iadd hx hb dX4_claim_243 ?_
                        refine zq_te (y := (nI (n + 1))) (nI_add _ _) ?_
                        refine zq_put hx hb hts in_X4_claim_X4 tyX4 tyX4_ok nmX4 hown hK hP hD hS 0 rfl rfl 4 (by decide) (hts _ w_X4_claim__fieldLink_RX4_79_WordsBesideModel_claims_I__a0b76b) rfl rfl rfl (Nat.le_of_ble_eq_true rfl) dX4_claim_244 (fun H locs hP hD hS => ?_)
                        have hP : va_P D vwCl (mW cI cZ ad ln st gv (upd oF n fx) (upd kF n kd) (upd fF n p1) (upd sF n q1) (upd bF n kp) mF hF kp (nI (n + 1)) m1 m2) H := hP
                        have hD : va_D A (mW cI cZ ad ln st gv (upd oF n fx) (upd kF n kd) (upd fF n p1) (upd sF n q1) (upd bF n kp) mF hF kp (nI (n + 1)) m1 m2) := hD
                        refine lv_aload_n hx hb dX4_claim_247 rfl (lv_at hl 1 rfl) ?_
                        refine zq_get hx hb hts in_X4_claim_X4 hown hK hP 0 rfl rfl 4 (by decide) (hts _ w_X4_claim__fieldLink_RX4_79_WordsBesideModel_claims_I__a0b76b) rfl dX4_claim_248 ?_
                        refine lv_iconst (v := (nI 1)) hx hb dX4_claim_251 (by decide) ?_
                        refine lv_isub hx hb dX4_claim_252 ?_
                        refine zq_te (y := (nI n)) (pk_sub (by omega)) ?_
                        exact ret _ _ _ _ _ _ (Or.inl ⟨⟨hyf, Or.inr (Or.inr (Or.inr (Or.inr (Or.inr (Or.inr (Or.inl ⟨k32_6, hy17⟩)))))), by omega⟩, rfl, rfl⟩) hP hD hS dX4_claim_253
                      · refine W.eq (g2 := F0 m 162 ls [.int (0 : Int32)]) rfl ?_
                        refine lv_istore (lv' := [(5, .int (0 : Int32)), (0, .ref (ad 0)), (1, .int fx), (2, .int kd), (3, .int p1), (4, .int q1)]) hx hb dX4_claim_162 hl (by decide) rfl (fun ls hl => ?_)
                        refine lv_goto (tgt := 176) hx hb dX4_claim_164 (by decide) ?_
                        refine lv_iload hx hb dX4_claim_176 (lv_at hl 0 rfl) ?_
                        refine lv_if_ne (tgt := 183) hx hb dX4_claim_178 (by decide) (fun c178 => absurd c178 (by decide)) (fun c178 => ?_)
                        refine lv_iconst (v := (-1 : Int32)) hx hb dX4_claim_181 (by decide) ?_
                        exact ret _ _ _ _ _ _ (Or.inr ⟨(fun q => by rw [k32_6] at q; rcases q.2.1 with z | z | z | z | z | z | z | z <;> first | exact absurd z (by decide) | exact absurd z.1 (by decide) | (exact hy17 z.2) | fail "open"), rfl, rfl⟩) hP hD hS dX4_claim_182
                    · by_cases k32_7 : kd = (7 : Int32)
                      · refine lv_tableIn (tgt := 167) hx hb dX4_claim_32 (by rw [k32_7]; decide) (by rw [k32_7]; decide) (by rw [k32_7]; rfl) (by decide) ?_
                        refine lv_iload_n hx hb dX4_claim_167 rfl (lv_at hl 4 rfl) ?_
                        refine zq_cS (rest := []) ⟨hx, hb, hml, hown, hts⟩ (c_X4_isFunction l D cI cZ cW cC p1) (va_cwS 1 hts gX4_claim_X4_isFunction rfl rfl rfl (by decide +kernel) ⟨Nat.le_of_ble_eq_true rfl, Nat.le_of_ble_eq_true rfl⟩) hK (fun k q h => by simp at h) rfl hl.1 rfl (Nat.le_of_ble_eq_true rfl) dX4_claim_168 ⟨Nat.le_of_ble_eq_true rfl, Nat.le_of_ble_eq_true rfl⟩ (fun v hv => ?_)
                        rcases hv with ⟨rfl, hyf7⟩ | ⟨rfl, hyf7⟩
                        · refine W.eq (g2 := F0 m 171 ls [.int (1 : Int32)]) rfl ?_
                          refine lv_istore (lv' := [(5, .int (1 : Int32)), (0, .ref (ad 0)), (1, .int fx), (2, .int kd), (3, .int p1), (4, .int q1)]) hx hb dX4_claim_171 hl (by decide) rfl (fun ls hl => ?_)
                          refine lv_goto (tgt := 176) hx hb dX4_claim_173 (by decide) ?_
                          refine lv_iload hx hb dX4_claim_176 (lv_at hl 0 rfl) ?_
                          refine lv_if_ne (tgt := 183) hx hb dX4_claim_178 (by decide) (fun c178 => ?_) (fun c178 => absurd c178 (by decide))
                          refine lv_aload_n hx hb dX4_claim_183 rfl (lv_at hl 1 rfl) ?_
                          refine zq_get hx hb hts in_X4_claim_X4 hown hK hP 0 rfl rfl 5 (by decide) (hts _ w_X4_claim__fieldLink_RX4_20_WordsBesideModel_of_I__9fac8e) rfl dX4_claim_184 ?_
                          refine lv_aload_n hx hb dX4_claim_187 rfl (lv_at hl 1 rfl) ?_
                          refine zq_get hx hb hts in_X4_claim_X4 hown hK hP 0 rfl rfl 4 (by decide) (hts _ w_X4_claim__fieldLink_RX4_79_WordsBesideModel_claims_I__a0b76b) rfl dX4_claim_188 ?_
                          refine lv_iload_n hx hb dX4_claim_191 rfl (lv_at hl 2 rfl) ?_
                          refine zq_ist hx hb hK hP hD hS 4 rfl n rfl (by omega) (by decide) dX4_claim_192 (fun H locs hP hD hS => ?_)
                          have hP : va_P D vwCl (mW cI cZ ad ln st gv (upd oF n fx) kF fF sF bF mF hF kp (nI n) m1 m2) H := hP
                          have hD : va_D A (mW cI cZ ad ln st gv (upd oF n fx) kF fF sF bF mF hF kp (nI n) m1 m2) := hD
                          refine lv_aload_n hx hb dX4_claim_193 rfl (lv_at hl 1 rfl) ?_
                          refine zq_get hx hb hts in_X4_claim_X4 hown hK hP 0 rfl rfl 6 (by decide) (hts _ w_X4_claim__fieldLink_RX4_23_WordsBesideModel_kind_I__cf4f2c) rfl dX4_claim_194 ?_
                          refine lv_aload_n hx hb dX4_claim_197 rfl (lv_at hl 1 rfl) ?_
                          refine zq_get hx hb hts in_X4_claim_X4 hown hK hP 0 rfl rfl 4 (by decide) (hts _ w_X4_claim__fieldLink_RX4_79_WordsBesideModel_claims_I__a0b76b) rfl dX4_claim_198 ?_
                          refine lv_iload_n hx hb dX4_claim_201 rfl (lv_at hl 3 rfl) ?_
                          refine zq_ist hx hb hK hP hD hS 5 rfl n rfl (by omega) (by decide) dX4_claim_202 (fun H locs hP hD hS => ?_)
                          have hP : va_P D vwCl (mW cI cZ ad ln st gv (upd oF n fx) (upd kF n kd) fF sF bF mF hF kp (nI n) m1 m2) H := hP
                          have hD : va_D A (mW cI cZ ad ln st gv (upd oF n fx) (upd kF n kd) fF sF bF mF hF kp (nI n) m1 m2) := hD
                          refine lv_aload_n hx hb dX4_claim_203 rfl (lv_at hl 1 rfl) ?_
                          refine zq_get hx hb hts in_X4_claim_X4 hown hK hP 0 rfl rfl 7 (by decide) (hts _ w_X4_claim__fieldLink_RX4_26_WordsBesideModel_first_I__de9671) rfl dX4_claim_204 ?_
                          refine lv_aload_n hx hb dX4_claim_207 rfl (lv_at hl 1 rfl) ?_
                          refine zq_get hx hb hts in_X4_claim_X4 hown hK hP 0 rfl rfl 4 (by decide) (hts _ w_X4_claim__fieldLink_RX4_79_WordsBesideModel_claims_I__a0b76b) rfl dX4_claim_208 ?_
                          refine lv_iload_n hx hb dX4_claim_211 rfl (lv_at hl 4 rfl) ?_
                          refine zq_ist hx hb hK hP hD hS 6 rfl n rfl (by omega) (by decide) dX4_claim_212 (fun H locs hP hD hS => ?_)
                          have hP : va_P D vwCl (mW cI cZ ad ln st gv (upd oF n fx) (upd kF n kd) (upd fF n p1) sF bF mF hF kp (nI n) m1 m2) H := hP
                          have hD : va_D A (mW cI cZ ad ln st gv (upd oF n fx) (upd kF n kd) (upd fF n p1) sF bF mF hF kp (nI n) m1 m2) := hD
                          refine lv_aload_n hx hb dX4_claim_213 rfl (lv_at hl 1 rfl) ?_
                          refine zq_get hx hb hts in_X4_claim_X4 hown hK hP 0 rfl rfl 8 (by decide) (hts _ w_X4_claim__fieldLink_RX4_29_WordsBesideModel_second_I__491129) rfl dX4_claim_214 ?_
                          refine lv_aload_n hx hb dX4_claim_217 rfl (lv_at hl 1 rfl) ?_
                          refine zq_get hx hb hts in_X4_claim_X4 hown hK hP 0 rfl rfl 4 (by decide) (hts _ w_X4_claim__fieldLink_RX4_79_WordsBesideModel_claims_I__a0b76b) rfl dX4_claim_218 ?_
                          refine lv_iload hx hb dX4_claim_221 (lv_at hl 5 rfl) ?_
                          refine zq_ist hx hb hK hP hD hS 7 rfl n rfl (by omega) (by decide) dX4_claim_223 (fun H locs hP hD hS => ?_)
                          have hP : va_P D vwCl (mW cI cZ ad ln st gv (upd oF n fx) (upd kF n kd) (upd fF n p1) (upd sF n q1) bF mF hF kp (nI n) m1 m2) H := hP
                          have hD : va_D A (mW cI cZ ad ln st gv (upd oF n fx) (upd kF n kd) (upd fF n p1) (upd sF n q1) bF mF hF kp (nI n) m1 m2) := hD
                          refine lv_aload_n hx hb dX4_claim_224 rfl (lv_at hl 1 rfl) ?_
                          refine zq_get hx hb hts in_X4_claim_X4 hown hK hP 0 rfl rfl 9 (by decide) (hts _ w_X4_claim__fieldLink_RX4_32_WordsBesideModel_base_I__b13283) rfl dX4_claim_225 ?_
                          refine lv_aload_n hx hb dX4_claim_228 rfl (lv_at hl 1 rfl) ?_
                          refine zq_get hx hb hts in_X4_claim_X4 hown hK hP 0 rfl rfl 4 (by decide) (hts _ w_X4_claim__fieldLink_RX4_79_WordsBesideModel_claims_I__a0b76b) rfl dX4_claim_229 ?_
                          refine lv_aload_n hx hb dX4_claim_232 rfl (lv_at hl 1 rfl) ?_
                          refine zq_get hx hb hts in_X4_claim_X4 hown hK hP 0 rfl rfl 2 (by decide) (hts _ w_X4_claim__fieldLink_RX4_75_WordsBesideModel_kept_I__b97d2f) rfl dX4_claim_233 ?_
                          refine zq_ist hx hb hK hP hD hS 8 rfl n rfl (by omega) (by decide) dX4_claim_236 (fun H locs hP hD hS => ?_)
                          have hP : va_P D vwCl (mW cI cZ ad ln st gv (upd oF n fx) (upd kF n kd) (upd fF n p1) (upd sF n q1) (upd bF n kp) mF hF kp (nI n) m1 m2) H := hP
                          have hD : va_D A (mW cI cZ ad ln st gv (upd oF n fx) (upd kF n kd) (upd fF n p1) (upd sF n q1) (upd bF n kp) mF hF kp (nI n) m1 m2) := hD
                          refine lv_aload_n hx hb dX4_claim_237 rfl (lv_at hl 1 rfl) ?_
                          refine lv_dup hx hb dX4_claim_238 rfl ?_
                          refine zq_get hx hb hts in_X4_claim_X4 hown hK hP 0 rfl rfl 4 (by decide) (hts _ w_X4_claim__fieldLink_RX4_79_WordsBesideModel_claims_I__a0b76b) rfl dX4_claim_239 ?_
                          refine lv_iconst (v := (nI 1)) hx hb dX4_claim_242 (by decide) ?_
                          refine lv_iadd hx hb dX4_claim_243 ?_
                          refine zq_te (y := (nI (n + 1))) (nI_add _ _) ?_
                          refine zq_put hx hb hts in_X4_claim_X4 tyX4 tyX4_ok nmX4 hown hK hP hD hS 0 rfl rfl 4 (by decide) (hts _ w_X4_claim__fieldLink_RX4_79_WordsBesideModel_claims_I__a0b76b) rfl rfl rfl (Nat.le_of_ble_eq_true rfl) dX4_claim_244 (fun H locs hP hD hS => ?_)
                          have hP : va_P D vwCl (mW cI cZ ad ln st gv (upd oF n fx) (upd kF n kd) (upd fF n p1) (upd sF n q1) (upd bF n kp) mF hF kp (nI (n + 1)) m1 m2) H := hP
                          have hD : va_D A (mW cI cZ ad ln st gv (upd oF n fx) (upd kF n kd) (upd fF n p1) (upd sF n q1) (upd bF n kp) mF hF kp (nI (n + 1)) m1 m2) := hD
                          refine lv_aload_n hx hb dX4_claim_247 rfl (lv_at hl 1 rfl) ?_
                          refine zq_get hx hb hts in_X4_claim_X4 hown hK hP 0 rfl rfl 4 (by decide) (hts _ w_X4_claim__fieldLink_RX4_79_WordsBesideModel_claims_I__a0b76b) rfl dX4_claim_248 ?_
                          refine lv_iconst (v := (nI 1)) hx hb dX4_claim_251 (by decide) ?_
                          refine lv_isub hx hb dX4_claim_252 ?_
                          refine zq_te (y := (nI n)) (pk_sub (by omega)) ?_
                          exact ret _ _ _ _ _ _ (Or.inl ⟨⟨hyf, Or.inr (Or.inr (Or.inr (Or.inr (Or.inr (Or.inr (Or.inr ⟨k32_7, hyf7⟩)))))), by omega⟩, rfl, rfl⟩) hP hD hS dX4_claim_253
                        · refine W.eq (g2 := F0 m 171 ls [.int (0 : Int32)]) rfl ?_
                          refine lv_istore (lv' := [(5, .int (0 : Int32)), (0, .ref (ad 0)), (1, .int fx), (2, .int kd), (3, .int p1), (4, .int q1)]) hx hb dX4_claim_171 hl (by decide) rfl (fun ls hl => ?_)
                          refine lv_goto (tgt := 176) hx hb dX4_claim_173 (by decide) ?_
                          refine lv_iload hx hb dX4_claim_176 (lv_at hl 0 rfl) ?_
                          refine lv_if_ne (tgt := 183) hx hb dX4_claim_178 (by decide) (fun c178 => absurd c178 (by decide)) (fun c178 => ?_)
                          refine lv_iconst (v := (-1 : Int32)) hx hb dX4_claim_181 (by decide) ?_
                          exact ret _ _ _ _ _ _ (Or.inr ⟨(fun q => by rw [k32_7] at q; rcases q.2.1 with z | z | z | z | z | z | z | z <;> first | exact absurd z (by decide) | exact absurd z.1 (by decide) | (exact hyf7 z.2) | fail "open"), rfl, rfl⟩) hP hD hS dX4_claim_182
                      · exact absurd hy8 (fun ⟨j, hj, e⟩ => by
                          have h9 : j = 0 ∨ j = 1 ∨ j = 2 ∨ j = 3 ∨ j = 4 ∨ j = 5 ∨ j = 6 ∨ j = 7 := by omega
                          rcases h9 with rfl | rfl | rfl | rfl | rfl | rfl | rfl | rfl
                          · exact k32_0 e
                          · exact k32_1 e
                          · exact k32_2 e
                          · exact k32_3 e
                          · exact k32_4 e
                          · exact k32_5 e
                          · exact k32_6 e
                          · exact k32_7 e)
      · have h23 := zeq c23
        refine lv_iconst (v := (-1 : Int32)) hx hb dX4_claim_26 (by decide) ?_
        exact ret _ _ _ _ _ _ (Or.inr ⟨(fun q => absurd q.2.2 (by omega)), rfl, rfl⟩) hP hD hS dX4_claim_27
    · refine W.eq (g2 := F0 m 14 ls [.int (0 : Int32)]) rfl ?_
      refine lv_if_eq (tgt := 26) hx hb dX4_claim_14 (by decide) (fun c14 => ?_) (fun c14 => absurd c14 (by decide))
      refine lv_iconst (v := (-1 : Int32)) hx hb dX4_claim_26 (by decide) ?_
      exact ret _ _ _ _ _ _ (Or.inr ⟨(fun q => hy8 (by rcases q.2.1 with z | z | z | z | z | z | z | z <;> first | exact ⟨0, by omega, z.1⟩ | exact ⟨1, by omega, z⟩ | exact ⟨2, by omega, z⟩ | exact ⟨3, by omega, z.1⟩ | exact ⟨4, by omega, z⟩ | exact ⟨5, by omega, z.1⟩ | exact ⟨6, by omega, z.1⟩ | exact ⟨7, by omega, z.1⟩ | fail "open")), rfl, rfl⟩) hP hD hS dX4_claim_27
  · refine W.eq (g2 := F0 m 4 ls [.int (0 : Int32)]) rfl ?_
    refine lv_if_eq (tgt := 26) hx hb dX4_claim_4 (by decide) (fun c4 => ?_) (fun c4 => absurd c4 (by decide))
    refine lv_iconst (v := (-1 : Int32)) hx hb dX4_claim_26 (by decide) ?_
    exact ret _ _ _ _ _ _ (Or.inr ⟨(fun q => hyf q.1), rfl, rfl⟩) hP hD hS dX4_claim_27
theorem w_X4_mark__fieldLink_RX4_35_WordsBesideModel_isMarked_Z__f949ba : (.fieldLink RX4 35 "WordsBesideModel" "isMarked" "[Z" : Cond) ∈ wsX4_mark := by decide +kernel
theorem in_X4_mark_X4 : ∀ w ∈ wsX40, w ∈ wsX4_mark := fun _ h => List.mem_cons_of_mem _ (List.mem_append_right _ h)
set_option maxHeartbeats 4000000 in
set_option maxRecDepth 100000 in
theorem c_X4_mark (l : Launch) (D : va_G) (cI cZ cW cC : ClassId) (ad : Nat → Nat) (ln st gv oF kF fF sF bF mF hF : Nat → Int32) (kp cm m1 m2 : Int32) (n : Nat) (hn : n ≤ 40) (en : cm = nI n) (cl : Int32) (sz : Nat) : zq_mu l D cI cZ cW cC yX4_mark wsX4_mark ({ frames := 2, cells := 0, slots := 0, locals := 43 } : Room) [.ref (ad 0), .int cl] (mW cI cZ ad ln st gv oF kF fF sF bF mF hF kp cm m1 m2) sz (fun v w1 => (∃ i, i < n ∧ cl = nI i ∧ mF i = 0 ∧ v = some (.int 1) ∧ w1 = (mW cI cZ ad ln st gv oF kF fF sF bF (upd mF i 1) hF kp cm m1 m2)) ∨ (¬ (∃ i, i < n ∧ cl = nI i ∧ mF i = 0) ∧ v = some (.int 0) ∧ w1 = (mW cI cZ ad ln st gv oF kF fF sF bF mF hF kp cm m1 m2))) 0 0 := by
  refine zq_muZ (own := RX4) (by decide) rfl rfl (Nat.le_of_ble_eq_true rfl) ?_
  intro p e s m below meth c Q A ls hsz hF hin hA hP hK hD hS hl ret
  obtain ⟨hx, hb, hml, hown, hts⟩ := hF
  have hl : lv_has ls 2 [(0, .ref (ad 0)), (1, .int cl)] := hl
  refine lv_aload_n hx hb dX4_mark_0 rfl (lv_at hl 0 rfl) ?_
  refine lv_iload_n hx hb dX4_mark_1 rfl (lv_at hl 1 rfl) ?_
  refine zq_cV (rest := []) ⟨hx, hb, hml, hown, hts⟩ (c_X4_isClaim l D cI cZ cW cC ad ln st gv oF kF fF sF bF mF hF kp cm m1 m2 n hn en cl) (cwV 1 hts gX4_mark_X4_isClaim rfl rfl rfl (by decide +kernel) ⟨Nat.le_of_ble_eq_true rfl, Nat.le_of_ble_eq_true rfl⟩) hK hP 4 0 rfl rfl rfl hl.1 rfl (Nat.le_of_ble_eq_true rfl) dX4_mark_2 ⟨Nat.le_of_ble_eq_true rfl, Nat.le_of_ble_eq_true rfl⟩ (fun v hv => ?_)
  rcases hv with ⟨rfl, i, hi, rfl⟩ | ⟨rfl, hyc⟩
  · refine W.eq (g2 := F0 m 5 ls [.int (1 : Int32)]) rfl ?_
    refine lv_if_eq (tgt := 17) hx hb dX4_mark_5 (by decide) (fun c5 => absurd c5 (by decide)) (fun c5 => ?_)
    refine lv_aload_n hx hb dX4_mark_8 rfl (lv_at hl 0 rfl) ?_
    refine zq_get hx hb hts in_X4_mark_X4 hown hK hP 0 rfl rfl 10 (by decide) (hts _ w_X4_mark__fieldLink_RX4_35_WordsBesideModel_isMarked_Z__f949ba) rfl dX4_mark_9 ?_
    refine lv_iload_n hx hb dX4_mark_12 rfl (lv_at hl 1 rfl) ?_
    refine zq_zld hx hb hK hP 9 rfl i rfl (by omega) (by decide) dX4_mark_13 ?_
    refine lv_if_eq (tgt := 19) hx hb dX4_mark_14 (by decide) (fun c14 => ?_) (fun c14 => ?_)
    · refine lv_aload_n hx hb dX4_mark_19 rfl (lv_at hl 0 rfl) ?_
      refine zq_get hx hb hts in_X4_mark_X4 hown hK hP 0 rfl rfl 10 (by decide) (hts _ w_X4_mark__fieldLink_RX4_35_WordsBesideModel_isMarked_Z__f949ba) rfl dX4_mark_20 ?_
      refine lv_iload_n hx hb dX4_mark_23 rfl (lv_at hl 1 rfl) ?_
      refine lv_iconst (v := (1 : Int32)) hx hb dX4_mark_24 (by decide) ?_
      refine zq_zst hx hb hK hP hD hS 9 rfl i rfl (by omega) (by decide) dX4_mark_25 (fun H locs hP hD hS => ?_)
      have hP : va_P D vwCl (mW cI cZ ad ln st gv oF kF fF sF bF (upd mF i 1) hF kp cm m1 m2) H := hP
      have hD : va_D A (mW cI cZ ad ln st gv oF kF fF sF bF (upd mF i 1) hF kp cm m1 m2) := hD
      refine lv_iconst (v := (1 : Int32)) hx hb dX4_mark_26 (by decide) ?_
      exact ret _ _ _ _ _ _ (Or.inr rfl) (Or.inl ⟨i, hi, rfl, c14, rfl, rfl⟩) hP hD hS dX4_mark_27
    · refine lv_iconst (v := (0 : Int32)) hx hb dX4_mark_17 (by decide) ?_
      exact ret _ _ _ _ _ _ (Or.inl rfl) (Or.inr ⟨(fun ⟨j, hj, e, h⟩ => by have e2 := zeq e; subst e2; exact c14 h), rfl, rfl⟩) hP hD hS dX4_mark_18
  · refine W.eq (g2 := F0 m 5 ls [.int (0 : Int32)]) rfl ?_
    refine lv_if_eq (tgt := 17) hx hb dX4_mark_5 (by decide) (fun c5 => ?_) (fun c5 => absurd c5 (by decide))
    refine lv_iconst (v := (0 : Int32)) hx hb dX4_mark_17 (by decide) ?_
    exact ret _ _ _ _ _ _ (Or.inl rfl) (Or.inr ⟨(fun ⟨j, hj, e, h⟩ => hyc ⟨j, hj, e⟩), rfl, rfl⟩) hP hD hS dX4_mark_18
