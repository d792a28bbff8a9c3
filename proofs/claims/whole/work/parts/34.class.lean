/-! WordsBeside: missing, count, listed -/
theorem zlow_iff (G : Nat → Int32) (f : Nat) : ∀ n, 0 < fb_ct (zlow G f) n ↔ (¬ zlst G f n = zNO ∧ zlst G f n < 0)
  | 0 => by simp [fb_ct, zlst]
  | n + 1 => by
    have ih := zlow_iff G f n
    rw [fb_ct_succ]
    by_cases hv : G (256 * f + n) = zNO
    · have e1 : zlst G f (n + 1) = zlst G f n := by rw [zlst, if_neg (fun q => q.1 hv)]
      have e2 : zlow G f n = false := by simp [zlow, hv]
      rw [e1, e2, ← ih]
      simp
    · by_cases hc : zlst G f n = zNO ∨ G (256 * f + n) < zlst G f n
      · have e1 : zlst G f (n + 1) = G (256 * f + n) := by rw [zlst, if_pos ⟨hv, hc⟩]
        rw [e1]
        by_cases h0 : G (256 * f + n) < 0
        · have e2 : zlow G f n = true := by simp [zlow, hv, h0]
          rw [e2]
          simp [hv, h0]
        · have e2 : zlow G f n = false := by simp [zlow, hv, h0]
          rw [e2]
          have h9 : ¬ 0 < fb_ct (zlow G f) n := fun q => by
            have h8 := ih.mp q
            rcases hc with z | z
            · exact h8.1 z
            · exact h0 (Int32.lt_trans z h8.2)
          simp [hv, h0]
          omega
      · have e1 : zlst G f (n + 1) = zlst G f n := by rw [zlst, if_neg (fun q => hc q.2)]
        rw [e1, ← ih]
        have h7 : ¬ zlst G f n = zNO := fun q => hc (Or.inl q)
        have h8 : ¬ G (256 * f + n) < zlst G f n := fun q => hc (Or.inr q)
        by_cases h0 : G (256 * f + n) < 0
        · have : zlst G f n < 0 := by
            rw [Int32.lt_iff_toInt_lt] at h8 h0 ⊢
            omega
          have h9 := ih.mpr ⟨h7, this⟩
          constructor
          · intro _; exact h9
          · intro _; omega
        · have e2 : zlow G f n = false := by simp [zlow, hv, h0]
          rw [e2]
          simp
theorem zlow_cong {G G' : Nat → Int32} {f : Nat} (h : ∀ r, r < 256 → G (256 * f + r) = G' (256 * f + r)) : fb_ct (zlow G f) 256 = fb_ct (zlow G' f) 256 := fb_ct_cong (fun r hr => by unfold zlow; rw [h r hr])
theorem zb66 {x : Int32} (h : zr 8 x) : ((nI 66 >>> (x &&& 31)) &&& 1) = 1 ↔ (x = 1 ∨ x = 6) := by
  obtain ⟨j, hj, rfl⟩ := h
  have : j = 0 ∨ j = 1 ∨ j = 2 ∨ j = 3 ∨ j = 4 ∨ j = 5 ∨ j = 6 ∨ j = 7 := by omega
  rcases this with rfl | rfl | rfl | rfl | rfl | rfl | rfl | rfl <;> decide
theorem zb1 {x : Int32} (h : zr 8 x) : (((1 : Int32) >>> (x &&& 31)) &&& 1) = 1 ↔ x = 0 := by
  obtain ⟨j, hj, rfl⟩ := h
  have : j = 0 ∨ j = 1 ∨ j = 2 ∨ j = 3 ∨ j = 4 ∨ j = 5 ∨ j = 6 ∨ j = 7 := by omega
  rcases this with rfl | rfl | rfl | rfl | rfl | rfl | rfl | rfl <;> decide
theorem zb255 {x : Int32} (h : zr 8 x) : ((nI 255 >>> (x &&& 31)) &&& 1) = 1 ↔ True := by
  obtain ⟨j, hj, rfl⟩ := h
  have : j = 0 ∨ j = 1 ∨ j = 2 ∨ j = 3 ∨ j = 4 ∨ j = 5 ∨ j = 6 ∨ j = 7 := by omega
  rcases this with rfl | rfl | rfl | rfl | rfl | rfl | rfl | rfl <;> decide
theorem zsubI {b j : Nat} {x : Int32} (h : x - nI b = nI j) : x = nI (b + j) := by
  have : x = (x - nI b) + nI b := by rw [Int32.sub_add_cancel]
  rw [this, h, nI_add, Nat.add_comm]
theorem znoa {b : Nat} {x : Int32} (hb : b ≤ 20) (h : x < nI b) : ¬ ∃ j, j < 6 ∧ x = nI (b + j) := fun ⟨j, hj, e⟩ => by
  rw [e] at h
  have := zlt h
  omega
theorem znob {b : Nat} {x : Int32} (hb : b ≤ 20) (h : ¬ zr 6 (x - nI b)) : ¬ ∃ j, j < 6 ∧ x = nI (b + j) := fun ⟨j, hj, e⟩ => h ⟨j, hj, by rw [e, pk_sub (by omega), show b + j - b = j by omega]⟩
theorem zLi_lt {har : Nat → Nat} {n i c : Nat} (h : zLi har n i c) : i < n := by
  rcases Nat.lt_or_ge i n with q | q
  · exact q
  · exact absurd h (zLi_no (Nat.le_trans (fb_ct_le _ _) q))

theorem w_X3_howManyStand__fieldLink_RX3_36_WordsBeside_claims_LWordsBeside_Claim__842a06 : (.fieldLink RX3 36 "WordsBeside" "claims" "[LWordsBeside$Claim;" : Cond) ∈ wsX3_howManyStand := by decide +kernel
theorem w_X3_howManyStand__fieldLink_RX3_40_WordsBeside_came_I__48f8c3 : (.fieldLink RX3 40 "WordsBeside" "came" "I" : Cond) ∈ wsX3_howManyStand := by decide +kernel
theorem in_X3_howManyStand_X3 : ∀ w ∈ wsX30, w ∈ wsX3_howManyStand := fun _ h => List.mem_cons_of_mem _ (List.mem_append_left _ (List.mem_append_left _ (List.mem_append_left _ (List.mem_append_right _ h))))
set_option maxHeartbeats 4000000 in
set_option maxRecDepth 100000 in
theorem c_X3_howManyStand (l : Launch) (D : va_G) (cI cZ cW cC : ClassId) (ad : Nat → Nat) (st ln N : Nat → Int32) (fs fc : Nat → Option Nat) (hm : Nat → Int32) (se kp cm : Int32) (PL : List Nat) (pf : Nat → va_E) (sn : Nat) (hsn : sn ≤ 6) (es : se = nI sn) (L : Nat → Nat) (HL : zHL ln L) (HV : ∀ f, f < 6 → zvs st f (L f)) (hOK : zOK st L N sn) (Gt : Nat → Int32) (hGt : zOK st L Gt 6) (n : Nat) (hn : n ≤ 40) (en : cm = nI n) (co fo bo : Nat → Nat) (kF fF sF lh mF : Nat → Int32) (HC : zPC PL pf fc co fo bo kF fF sF lh mF n) (hfo : ∀ i, i < n → fo i < 6) (wx : Int32) (sz : Nat) : zq_mu l D cI cZ cW cC yX3_howManyStand wsX3_howManyStand ({ frames := 5, cells := 0, slots := 0, locals := 119 } : Room) [.ref (ad 0), .int wx] ((cX cI cW cC ad st ln N fs fc hm se kp cm) ++ va_pl PL pf) sz (fun v w1 => v = some (.int (nI (fb_ct (fun i => decide ((zstd (zheld (zdn Gt fo kF fF sF i)) (lh i)) = wx)) n))) ∧ ∃ (N3 : Nat → Int32) (sn3 : Nat), w1 = ((cX cI cW cC ad st ln N3 fs fc hm (nI sn3) kp cm) ++ va_pl PL pf) ∧ sn3 ≤ 6 ∧ zOK st L N3 sn3) 0 0 := by
  refine zq_muI (own := RX3) (by decide) rfl rfl (Nat.le_of_ble_eq_true rfl) ?_
  intro p e s m below meth c Q A ls hsz hF hin hA hP hK hD hS hl ret
  obtain ⟨hx, hb, hml, hown, hts⟩ := hF
  have hl : lv_has ls 6 [(0, .ref (ad 0)), (1, .int wx)] := hl
  subst es
  refine lv_aload_n hx hb dX3_howManyStand_0 rfl (lv_at hl 0 rfl) ?_
  refine zq_cM (rest := []) ⟨hx, hb, hml, hown, hts⟩ (c_X3_present l D cI cZ cW cC ad st ln N fs fc hm (nI sn) kp cm PL pf L HL HV sn hsn rfl hOK _) (cwV 0 hts gX3_howManyStand_X3_present rfl rfl rfl (by decide +kernel) ⟨Nat.le_of_ble_eq_true rfl, Nat.le_of_ble_eq_true rfl⟩) hK hP hD hS hA 3 0 rfl rfl rfl hl.1 rfl (Nat.le_of_ble_eq_true rfl) dX3_howManyStand_1 ⟨Nat.le_of_ble_eq_true rfl, Nat.le_of_ble_eq_true rfl⟩ (fun v w1 H locs hv hP hD hS => ?_)
  obtain ⟨rfl, N2, rfl, hN2⟩ := hv
  have hP : va_P D vwCl ((cX cI cW cC ad st ln N2 fs fc hm (nI 6) kp cm) ++ va_pl PL pf) H := hP
  have hD : va_D A ((cX cI cW cC ad st ln N2 fs fc hm (nI 6) kp cm) ++ va_pl PL pf) := hD
  refine W.eq (g2 := F0 m 4 ls [.ref (ad 4)]) rfl ?_
  have eN : ∀ j, j < 1536 → N2 j = Gt j := zOK_one (by omega) hN2 hGt HV
  refine lv_astore_n (lv' := [(2, .ref (ad 4)), (0, .ref (ad 0)), (1, .int wx)]) hx hb dX3_howManyStand_4 rfl hl (by decide) rfl (fun ls hl => ?_)
  refine lv_iconst (v := (nI 0)) hx hb dX3_howManyStand_5 (by decide) ?_
  refine lv_istore_n (lv' := [(3, .int (nI 0)), (2, .ref (ad 4)), (0, .ref (ad 0)), (1, .int wx)]) hx hb dX3_howManyStand_6 rfl hl (by decide) rfl (fun ls hl => ?_)
  refine lv_iconst (v := (nI 0)) hx hb dX3_howManyStand_7 (by decide) ?_
  refine lv_istore (lv' := [(4, .int (nI 0)), (3, .int (nI 0)), (2, .ref (ad 4)), (0, .ref (ad 0)), (1, .int wx)]) hx hb dX3_howManyStand_8 hl (by decide) rfl (fun ls hl => ?_)
  have loop10 : ∀ (fu10 : Nat) (j a : Nat) (H : Heap) (locs : List Loc) (ls : Array Slot), (n - j) < fu10 → (j ≤ n) → (a = fb_ct (fun i => decide ((zstd (zheld (zdn Gt fo kF fF sF i)) (lh i)) = wx)) j) → va_P D vwCl ((cX cI cW cC ad st ln N2 fs fc hm (nI 6) kp cm) ++ va_pl PL pf) H → va_D A ((cX cI cW cC ad st ln N2 fs fc hm (nI 6) kp cm) ++ va_pl PL pf) → va_S A s.heap H locs → lv_has ls 6 [(0, .ref (ad 0)), (1, .int wx), (2, .ref (ad 4)), (3, .int (nI a)), (4, .int (nI j))] → W p l e ({ frames := 5, cells := 0, slots := 0, locals := 119 } : Room) s m ([.ref (ad 0), .int wx] : List Value).toArray below meth c H locs 0 0 Q (F0 m 10 ls []) := by
    intro fu10
    induction fu10 with
    | zero => intro _ _ _ _ _ hmu; exact absurd hmu (Nat.not_lt_zero _)
    | succ fu10 ih10 =>
      intro j a H locs ls hmu10 hj ea hP hD hS hl
      refine lv_iload hx hb dX3_howManyStand_10 (lv_at hl 4 rfl) ?_
      refine lv_aload_n hx hb dX3_howManyStand_12 rfl (lv_at hl 0 rfl) ?_
      refine zq_get hx hb hts in_X3_howManyStand_X3 hown hK hP 0 rfl rfl 6 (by decide) (hts _ w_X3_howManyStand__fieldLink_RX3_40_WordsBeside_came_I__48f8c3) rfl dX3_howManyStand_13 ?_
      refine zq_te (y := (nI n)) en ?_
      refine lv_icmp_ge (tgt := 52) hx hb dX3_howManyStand_16 (by decide) (fun c16 => ?_) (fun c16 => ?_)
      · have h16 := zle c16
        refine lv_iload_n hx hb dX3_howManyStand_52 rfl (lv_at hl 3 rfl) ?_
        exact ret _ _ _ _ _ _ (by exact ⟨by rw [ea, show j = n by omega], _, 6, rfl, by omega, hN2⟩) hP hD hS dX3_howManyStand_53
      · have h16 := znle c16
        have hfj := hfo j (znle c16)
        refine lv_aload_n hx hb dX3_howManyStand_19 rfl (lv_at hl 0 rfl) ?_
        refine zq_get hx hb hts in_X3_howManyStand_X3 hown hK hP 0 rfl rfl 5 (by decide) (hts _ w_X3_howManyStand__fieldLink_RX3_36_WordsBeside_claims_LWordsBeside_Claim__842a06) rfl dX3_howManyStand_20 ?_
        refine lv_iload hx hb dX3_howManyStand_23 (lv_at hl 4 rfl) ?_
        refine zq_aldC hx hb hK hP 7 rfl j rfl (by omega) (by decide) dX3_howManyStand_25 ?_
        rw [show (fc j) = some (co j) from (HC.1 j (by omega)).1]
        show W _ _ _ _ _ _ _ _ _ _ _ _ _ _ _ (F0 _ _ _ (.ref (co j) :: _))
        refine lv_astore (lv' := [(5, .ref (co j)), (0, .ref (ad 0)), (1, .int wx), (2, .ref (ad 4)), (3, .int (nI a)), (4, .int (nI j))]) hx hb dX3_howManyStand_26 hl (by decide) rfl (fun ls hl => ?_)
        refine lv_aload hx hb dX3_howManyStand_28 (lv_at hl 0 rfl) ?_
        refine lv_ifnull hx hb dX3_howManyStand_30 ?_
        refine lv_aload hx hb dX3_howManyStand_33 (lv_at hl 0 rfl) ?_
        refine lv_aload_n hx hb dX3_howManyStand_35 rfl (lv_at hl 3 rfl) ?_
        refine zq_cS (rest := []) ⟨hx, hb, hml, hown, hts⟩ (c_X3_standing l D cI cZ cW cC (co j) (ad 4) (ad 5) N2 (fo j) hfj (kF j) (fF j) (sF j) (nI (bo j)) (lh j) (mF j)) (va_cwS 2 hts gX3_howManyStand_X3_standing rfl rfl rfl (by decide +kernel) ⟨Nat.le_of_ble_eq_true rfl, Nat.le_of_ble_eq_true rfl⟩) hK (zP_3 (zP_pl hP (HC.1 j (by omega)).2.1 (HC.1 j (by omega)).2.2) (hP 4 _ rfl) (hP 5 _ rfl)) rfl hl.1 rfl (Nat.le_of_ble_eq_true rfl) dX3_howManyStand_36 ⟨Nat.le_of_ble_eq_true rfl, Nat.le_of_ble_eq_true rfl⟩ (fun v hv => ?_)
        obtain rfl := hv
        refine W.eq (g2 := F0 m 39 ls [.int (zstd (zheld (zden N2 (fo j) (kF j) (fF j) (sF j))) (lh j))]) rfl ?_
        refine lv_iload_n hx hb dX3_howManyStand_39 rfl (lv_at hl 2 rfl) ?_
        refine lv_icmp_ne (tgt := 46) hx hb dX3_howManyStand_40 (by decide) (fun c40 => ?_) (fun c40 => ?_)
        · refine lv_iinc (v := (nI (j + 1))) (lv' := [(4, .int (nI (j + 1))), (5, .ref (co j)), (0, .ref (ad 0)), (1, .int wx), (2, .ref (ad 4)), (3, .int (nI a))]) hx hb dX3_howManyStand_46 hl (k := 5) rfl ((nI_succ _).symm) (by decide) rfl (fun ls hl => ?_)
          refine lv_goto (tgt := 10) hx hb dX3_howManyStand_49 (by decide) ?_
          exact ih10 (j + 1) a _ _ ls (by omega) (by omega) (by rw [zheld_cong eN hfj] at c40; rw [fb_ct_succ, ← ea, if_neg (by simp only [zdn, c40]; simp), Nat.add_zero]) hP hD hS (lv_sub hl [2, 3, 4, 5, 0] rfl)
        · refine lv_iinc (v := (nI (a + 1))) (lv' := [(3, .int (nI (a + 1))), (5, .ref (co j)), (0, .ref (ad 0)), (1, .int wx), (2, .ref (ad 4)), (4, .int (nI j))]) hx hb dX3_howManyStand_43 hl (k := 4) rfl ((nI_succ _).symm) (by decide) rfl (fun ls hl => ?_)
          refine lv_iinc (v := (nI (j + 1))) (lv' := [(4, .int (nI (j + 1))), (3, .int (nI (a + 1))), (5, .ref (co j)), (0, .ref (ad 0)), (1, .int wx), (2, .ref (ad 4))]) hx hb dX3_howManyStand_46 hl (k := 5) rfl ((nI_succ _).symm) (by decide) rfl (fun ls hl => ?_)
          refine lv_goto (tgt := 10) hx hb dX3_howManyStand_49 (by decide) ?_
          exact ih10 (j + 1) (a + 1) _ _ ls (by omega) (by omega) (by rw [zheld_cong eN hfj] at c40; rw [fb_ct_succ, ← ea, if_pos (by simp only [zdn, c40]; simp)]) hP hD hS (lv_sub hl [3, 4, 5, 1, 0] rfl)
  exact loop10 (n + 1) 0 0 _ _ ls (by omega) (by omega) rfl hP hD hS (lv_sub hl [3, 4, 2, 1, 0] rfl)
theorem w_X3_missing__constant_RX3_99_2147483648__ebb59d : (.constant RX3 99 (-2147483648) : Cond) ∈ wsX3_missing := by decide +kernel
theorem w_X3_missing__fieldLink_RX3_12_WordsBeside_code_LWordsBeside_Code__2ab9f4 : (.fieldLink RX3 12 "WordsBeside" "code" "LWordsBeside$Code;" : Cond) ∈ wsX3_missing := by decide +kernel
theorem in_X3_missing_X3 : ∀ w ∈ wsX30, w ∈ wsX3_missing := fun _ h => List.mem_cons_of_mem _ (List.mem_append_left _ (List.mem_append_left _ (List.mem_append_left _ (List.mem_append_right _ h))))
set_option maxHeartbeats 4000000 in
set_option maxRecDepth 100000 in
theorem c_X3_missing (l : Launch) (D : va_G) (cI cZ cW cC : ClassId) (ad : Nat → Nat) (st ln N : Nat → Int32) (fs fc : Nat → Option Nat) (hm : Nat → Int32) (se kp cm : Int32) (PL : List Nat) (pf : Nat → va_E) (sn : Nat) (hsn : sn ≤ 6) (es : se = nI sn) (L : Nat → Nat) (HL : zHL ln L) (HV : ∀ f, f < 6 → zvs st f (L f)) (hOK : zOK st L N sn) (Gt : Nat → Int32) (hGt : zOK st L Gt 6) (n : Nat) (hn : n ≤ 40) (en : cm = nI n) (co fo bo : Nat → Nat) (kF fF sF lh mF : Nat → Int32) (HC : zPC PL pf fc co fo bo kF fF sF lh mF n) (hfo : ∀ i, i < n → fo i < 6) (hk8 : ∀ i, i < n → zr 8 (kF i)) (fx : Int32) (sz : Nat) : zq_mu l D cI cZ cW cC yX3_missing wsX3_missing ({ frames := 5, cells := 0, slots := 0, locals := 119 } : Room) [.ref (ad 0), .int fx] ((cX cI cW cC ad st ln N fs fc hm se kp cm) ++ va_pl PL pf) sz (fun v w1 => v = some (.int (zmiss Gt fo kF n L fx)) ∧ ∃ (N3 : Nat → Int32) (sn3 : Nat), w1 = ((cX cI cW cC ad st ln N3 fs fc hm (nI sn3) kp cm) ++ va_pl PL pf) ∧ sn3 ≤ 6 ∧ zOK st L N3 sn3) 0 0 := by
  refine zq_muI (own := RX3) (by decide) rfl rfl (Nat.le_of_ble_eq_true rfl) ?_
  intro p e s m below meth c Q A ls hsz hF hin hA hP hK hD hS hl ret
  obtain ⟨hx, hb, hml, hown, hts⟩ := hF
  have hl : lv_has ls 5 [(0, .ref (ad 0)), (1, .int fx)] := hl
  subst es
  refine lv_iload_n hx hb dX3_missing_0 rfl (lv_at hl 1 rfl) ?_
  refine zq_cS (rest := []) ⟨hx, hb, hml, hown, hts⟩ (c_X3_isFunction l D cI cZ cW cC fx) (va_cwS 1 hts gX3_missing_X3_isFunction rfl rfl rfl (by decide +kernel) ⟨Nat.le_of_ble_eq_true rfl, Nat.le_of_ble_eq_true rfl⟩) hK (fun k q h => by simp at h) rfl hl.1 rfl (Nat.le_of_ble_eq_true rfl) dX3_missing_1 ⟨Nat.le_of_ble_eq_true rfl, Nat.le_of_ble_eq_true rfl⟩ (fun v hv => ?_)
  rcases hv with ⟨rfl, f, hf, rfl⟩ | ⟨rfl, hyf⟩
  · refine W.eq (g2 := F0 m 4 ls [.int (1 : Int32)]) rfl ?_
    refine lv_if_ne (tgt := 9) hx hb dX3_missing_4 (by decide) (fun c4 => ?_) (fun c4 => absurd c4 (by decide))
    refine lv_aload_n hx hb dX3_missing_9 rfl (lv_at hl 0 rfl) ?_
    refine zq_cM (rest := []) ⟨hx, hb, hml, hown, hts⟩ (c_X3_present l D cI cZ cW cC ad st ln N fs fc hm (nI sn) kp cm PL pf L HL HV sn hsn rfl hOK _) (cwV 0 hts gX3_missing_X3_present rfl rfl rfl (by decide +kernel) ⟨Nat.le_of_ble_eq_true rfl, Nat.le_of_ble_eq_true rfl⟩) hK hP hD hS hA 3 0 rfl rfl rfl hl.1 rfl (Nat.le_of_ble_eq_true rfl) dX3_missing_10 ⟨Nat.le_of_ble_eq_true rfl, Nat.le_of_ble_eq_true rfl⟩ (fun v w1 H locs hv hP hD hS => ?_)
    obtain ⟨rfl, N2, rfl, hN2⟩ := hv
    have hP : va_P D vwCl ((cX cI cW cC ad st ln N2 fs fc hm (nI 6) kp cm) ++ va_pl PL pf) H := hP
    have hD : va_D A ((cX cI cW cC ad st ln N2 fs fc hm (nI 6) kp cm) ++ va_pl PL pf) := hD
    refine W.eq (g2 := F0 m 13 ls [.ref (ad 4)]) rfl ?_
    have eN : ∀ j, j < 1536 → N2 j = Gt j := zOK_one (by omega) hN2 hGt HV
    refine lv_astore_n (lv' := [(2, .ref (ad 4)), (0, .ref (ad 0)), (1, .int (nI f))]) hx hb dX3_missing_13 rfl hl (by decide) rfl (fun ls hl => ?_)
    refine lv_iconst (v := (0 : Int32)) hx hb dX3_missing_14 (by decide) ?_
    refine lv_istore_n (lv' := [(3, .int (0 : Int32)), (2, .ref (ad 4)), (0, .ref (ad 0)), (1, .int (nI f))]) hx hb dX3_missing_15 rfl hl (by decide) rfl (fun ls hl => ?_)
    refine lv_aload_n hx hb dX3_missing_16 rfl (lv_at hl 1 rfl) ?_
    refine lv_iload_n hx hb dX3_missing_17 rfl (lv_at hl 3 rfl) ?_
    refine zq_cV (rest := []) ⟨hx, hb, hml, hown, hts⟩ (c_X2_refusals l D cI cZ cW cC (ad 4) (ad 5) N2 f hf) (cwV 1 hts gX3_missing_X2_refusals rfl rfl rfl (by decide +kernel) ⟨Nat.le_of_ble_eq_true rfl, Nat.le_of_ble_eq_true rfl⟩) hK (zP_2 (hP 4 _ rfl) (hP 5 _ rfl)) 2 0 rfl rfl rfl hl.1 rfl (Nat.le_of_ble_eq_true rfl) dX3_missing_18 ⟨Nat.le_of_ble_eq_true rfl, Nat.le_of_ble_eq_true rfl⟩ (fun v hv => ?_)
    obtain rfl := hv
    refine W.eq (g2 := F0 m 21 ls [.int (nI (fb_ct (zref N2 f) 256))]) rfl ?_
    have hrc := fb_ct_le (zref N2 f) 256
    refine lv_if_le (tgt := 38) hx hb dX3_missing_21 (by decide) (fun c21 => ?_) (fun c21 => ?_)
    · have h21 : ¬ 0 < fb_ct (zref Gt f) 256 := by have := zle (show nI (fb_ct (zref N2 f) 256) ≤ nI 0 from c21); rw [← fb_ct_cong (zref_cong (zblk eN hf))]; omega
      refine lv_aload_n hx hb dX3_missing_38 rfl (lv_at hl 1 rfl) ?_
      refine lv_iload_n hx hb dX3_missing_39 rfl (lv_at hl 3 rfl) ?_
      refine zq_cV (rest := []) ⟨hx, hb, hml, hown, hts⟩ (c_X2_least l D cI cZ cW cC (ad 4) (ad 5) N2 f hf) (cwV 1 hts gX3_missing_X2_least rfl rfl rfl (by decide +kernel) ⟨Nat.le_of_ble_eq_true rfl, Nat.le_of_ble_eq_true rfl⟩) hK (zP_2 (hP 4 _ rfl) (hP 5 _ rfl)) 2 0 rfl rfl rfl hl.1 rfl (Nat.le_of_ble_eq_true rfl) dX3_missing_40 ⟨Nat.le_of_ble_eq_true rfl, Nat.le_of_ble_eq_true rfl⟩ (fun v hv => ?_)
      obtain rfl := hv
      refine W.eq (g2 := F0 m 43 ls [.int (zlst N2 f 256)]) rfl ?_
      refine lv_istore (lv' := [(4, .int (zlst N2 f 256)), (3, .int (0 : Int32)), (2, .ref (ad 4)), (0, .ref (ad 0)), (1, .int (nI f))]) hx hb dX3_missing_43 hl (by decide) rfl (fun ls hl => ?_)
      refine lv_iload hx hb dX3_missing_45 (lv_at hl 0 rfl) ?_
      refine lv_ldc (v := (-2147483648 : Int32)) hx hb hown (hts _ w_X3_missing__constant_RX3_99_2147483648__ebb59d) dX3_missing_47 ?_
      refine lv_icmp_eq (tgt := 70) hx hb dX3_missing_49 (by decide) (fun c49 => ?_) (fun c49 => ?_)
      · have hlw : ¬ 0 < fb_ct (zlow Gt f) 256 := by rw [← zlow_cong (zblk eN hf), zlow_iff]; exact fun q => q.1 c49
        refine lv_aload_n hx hb dX3_missing_70 rfl (lv_at hl 3 rfl) ?_
        refine zq_get hx hb hts in_X3_missing_X3 hown hK hP 0 rfl rfl 0 (by decide) (hts _ w_X3_missing__fieldLink_RX3_12_WordsBeside_code_LWordsBeside_Code__2ab9f4) rfl dX3_missing_71 ?_
        refine lv_iload_n hx hb dX3_missing_74 rfl (lv_at hl 4 rfl) ?_
        refine zq_cV (rest := []) ⟨hx, hb, hml, hown, hts⟩ (zq_ro_mono (c_X1_length l D cI cZ cW cC (ad 1) (ad 2) (ad 3) st ln f hf) (fun v h => h.trans (congrArg (fun z => some (Value.int z)) (HL f hf).1))) (cwV 1 hts gX3_missing_X1_length rfl rfl rfl (by decide +kernel) ⟨Nat.le_of_ble_eq_true rfl, Nat.le_of_ble_eq_true rfl⟩) hK (zP_3 (hP 1 _ rfl) (hP 2 _ rfl) (hP 3 _ rfl)) 1 0 rfl rfl rfl hl.1 rfl (Nat.le_of_ble_eq_true rfl) dX3_missing_75 ⟨Nat.le_of_ble_eq_true rfl, Nat.le_of_ble_eq_true rfl⟩ (fun v hv => ?_)
        obtain rfl := hv
        refine W.eq (g2 := F0 m 78 ls [.int (nI (L f))]) rfl ?_
        refine lv_if_le (tgt := 96) hx hb dX3_missing_78 (by decide) (fun c78 => ?_) (fun c78 => ?_)
        · have h78 : ¬ 0 < L f := by have := (HL f hf).2; have := zle (show nI (L f) ≤ nI 0 from c78); omega
          refine lv_iload_n hx hb dX3_missing_96 rfl (lv_at hl 1 rfl) ?_
          exact ret _ _ _ _ _ _ (by exact ⟨by rw [zmiss_in hf, zmsf, if_neg (fun q => h21 q.1), if_neg (fun q => hlw q.1), if_neg (fun q => h78 q.1)] <;> exact congrArg (fun z => some (Value.int z)) (by decide), _, 6, rfl, by omega, hN2⟩) hP hD hS dX3_missing_97
        · have h78 : 0 < L f := by have := (HL f hf).2; exact znle (show ¬ nI (L f) ≤ nI 0 from c78)
          refine lv_aload_n hx hb dX3_missing_81 rfl (lv_at hl 3 rfl) ?_
          refine lv_iload_n hx hb dX3_missing_82 rfl (lv_at hl 4 rfl) ?_
          refine lv_sipush (v := (nI 255)) hx hb dX3_missing_83 (by decide) ?_
          refine zq_cV (rest := []) ⟨hx, hb, hml, hown, hts⟩ (c_X3_hasClaim l D cI cZ cW cC ad st ln N2 fs fc hm (nI 6) kp cm PL pf n hn en co fo bo kF fF sF lh mF HC hfo f hf (nI 255) zP3 (fun i hi => by rw [zb255 (hk8 i hi)]; simp [zP3])) (cwV 2 hts gX3_missing_X3_hasClaim rfl rfl rfl (by decide +kernel) ⟨Nat.le_of_ble_eq_true rfl, Nat.le_of_ble_eq_true rfl⟩) hK hP 3 0 rfl rfl rfl hl.1 rfl (Nat.le_of_ble_eq_true rfl) dX3_missing_86 ⟨Nat.le_of_ble_eq_true rfl, Nat.le_of_ble_eq_true rfl⟩ (fun v hv => ?_)
          obtain rfl := hv
          refine W.eq (g2 := F0 m 89 ls [.int (if 0 < fb_ct (zhas fo f zP3) n then (1 : Int32) else 0)]) rfl ?_
          refine lv_if_ne (tgt := 96) hx hb dX3_missing_89 (by decide) (fun c89 => ?_) (fun c89 => ?_)
          · have h89 := zif_a c89
            refine lv_iload_n hx hb dX3_missing_96 rfl (lv_at hl 1 rfl) ?_
            exact ret _ _ _ _ _ _ (by exact ⟨by rw [zmiss_in hf, zmsf, if_neg (fun q => h21 q.1), if_neg (fun q => hlw q.1), if_neg (fun q => q.2 h89)] <;> exact congrArg (fun z => some (Value.int z)) (by decide), _, 6, rfl, by omega, hN2⟩) hP hD hS dX3_missing_97
          · have h89 := zif_b c89
            refine lv_iload_n hx hb dX3_missing_92 rfl (lv_at hl 1 rfl) ?_
            refine lv_iconst (v := (4 : Int32)) hx hb dX3_missing_93 (by decide) ?_
            refine lv_ior hx hb dX3_missing_94 ?_
            refine lv_istore_n (lv' := [(3, .int ((0 : Int32) ||| (4 : Int32))), (4, .int (zlst N2 f 256)), (2, .ref (ad 4)), (0, .ref (ad 0)), (1, .int (nI f))]) hx hb dX3_missing_95 rfl hl (by decide) rfl (fun ls hl => ?_)
            refine lv_iload_n hx hb dX3_missing_96 rfl (lv_at hl 0 rfl) ?_
            exact ret _ _ _ _ _ _ (by exact ⟨by rw [zmiss_in hf, zmsf, if_neg (fun q => h21 q.1), if_neg (fun q => hlw q.1), if_pos ⟨h78, h89⟩] <;> exact congrArg (fun z => some (Value.int z)) (by decide), _, 6, rfl, by omega, hN2⟩) hP hD hS dX3_missing_97
      · refine lv_iload hx hb dX3_missing_52 (lv_at hl 0 rfl) ?_
        refine lv_if_ge (tgt := 70) hx hb dX3_missing_54 (by decide) (fun c54 => ?_) (fun c54 => ?_)
        · have hlw : ¬ 0 < fb_ct (zlow Gt f) 256 := by rw [← zlow_cong (zblk eN hf), zlow_iff]; exact fun q => absurd q.2 (Int32.not_lt.mpr c54)
          refine lv_aload_n hx hb dX3_missing_70 rfl (lv_at hl 3 rfl) ?_
          refine zq_get hx hb hts in_X3_missing_X3 hown hK hP 0 rfl rfl 0 (by decide) (hts _ w_X3_missing__fieldLink_RX3_12_WordsBeside_code_LWordsBeside_Code__2ab9f4) rfl dX3_missing_71 ?_
          refine lv_iload_n hx hb dX3_missing_74 rfl (lv_at hl 4 rfl) ?_
          refine zq_cV (rest := []) ⟨hx, hb, hml, hown, hts⟩ (zq_ro_mono (c_X1_length l D cI cZ cW cC (ad 1) (ad 2) (ad 3) st ln f hf) (fun v h => h.trans (congrArg (fun z => some (Value.int z)) (HL f hf).1))) (cwV 1 hts gX3_missing_X1_length rfl rfl rfl (by decide +kernel) ⟨Nat.le_of_ble_eq_true rfl, Nat.le_of_ble_eq_true rfl⟩) hK (zP_3 (hP 1 _ rfl) (hP 2 _ rfl) (hP 3 _ rfl)) 1 0 rfl rfl rfl hl.1 rfl (Nat.le_of_ble_eq_true rfl) dX3_missing_75 ⟨Nat.le_of_ble_eq_true rfl, Nat.le_of_ble_eq_true rfl⟩ (fun v hv => ?_)
          obtain rfl := hv
          refine W.eq (g2 := F0 m 78 ls [.int (nI (L f))]) rfl ?_
          refine lv_if_le (tgt := 96) hx hb dX3_missing_78 (by decide) (fun c78 => ?_) (fun c78 => ?_)
          · have h78 : ¬ 0 < L f := by have := (HL f hf).2; have := zle (show nI (L f) ≤ nI 0 from c78); omega
            refine lv_iload_n hx hb dX3_missing_96 rfl (lv_at hl 1 rfl) ?_
            exact ret _ _ _ _ _ _ (by exact ⟨by rw [zmiss_in hf, zmsf, if_neg (fun q => h21 q.1), if_neg (fun q => hlw q.1), if_neg (fun q => h78 q.1)] <;> exact congrArg (fun z => some (Value.int z)) (by decide), _, 6, rfl, by omega, hN2⟩) hP hD hS dX3_missing_97
          · have h78 : 0 < L f := by have := (HL f hf).2; exact znle (show ¬ nI (L f) ≤ nI 0 from c78)
            refine lv_aload_n hx hb dX3_missing_81 rfl (lv_at hl 3 rfl) ?_
            refine lv_iload_n hx hb dX3_missing_82 rfl (lv_at hl 4 rfl) ?_
            refine lv_sipush (v := (nI 255)) hx hb dX3_missing_83 (by decide) ?_
            refine zq_cV (rest := []) ⟨hx, hb, hml, hown, hts⟩ (c_X3_hasClaim l D cI cZ cW cC ad st ln N2 fs fc hm (nI 6) kp cm PL pf n hn en co fo bo kF fF sF lh mF HC hfo f hf (nI 255) zP3 (fun i hi => by rw [zb255 (hk8 i hi)]; simp [zP3])) (cwV 2 hts gX3_missing_X3_hasClaim rfl rfl rfl (by decide +kernel) ⟨Nat.le_of_ble_eq_true rfl, Nat.le_of_ble_eq_true rfl⟩) hK hP 3 0 rfl rfl rfl hl.1 rfl (Nat.le_of_ble_eq_true rfl) dX3_missing_86 ⟨Nat.le_of_ble_eq_true rfl, Nat.le_of_ble_eq_true rfl⟩ (fun v hv => ?_)
            obtain rfl := hv
            refine W.eq (g2 := F0 m 89 ls [.int (if 0 < fb_ct (zhas fo f zP3) n then (1 : Int32) else 0)]) rfl ?_
            refine lv_if_ne (tgt := 96) hx hb dX3_missing_89 (by decide) (fun c89 => ?_) (fun c89 => ?_)
            · have h89 := zif_a c89
              refine lv_iload_n hx hb dX3_missing_96 rfl (lv_at hl 1 rfl) ?_
              exact ret _ _ _ _ _ _ (by exact ⟨by rw [zmiss_in hf, zmsf, if_neg (fun q => h21 q.1), if_neg (fun q => hlw q.1), if_neg (fun q => q.2 h89)] <;> exact congrArg (fun z => some (Value.int z)) (by decide), _, 6, rfl, by omega, hN2⟩) hP hD hS dX3_missing_97
            · have h89 := zif_b c89
              refine lv_iload_n hx hb dX3_missing_92 rfl (lv_at hl 1 rfl) ?_
              refine lv_iconst (v := (4 : Int32)) hx hb dX3_missing_93 (by decide) ?_
              refine lv_ior hx hb dX3_missing_94 ?_
              refine lv_istore_n (lv' := [(3, .int ((0 : Int32) ||| (4 : Int32))), (4, .int (zlst N2 f 256)), (2, .ref (ad 4)), (0, .ref (ad 0)), (1, .int (nI f))]) hx hb dX3_missing_95 rfl hl (by decide) rfl (fun ls hl => ?_)
              refine lv_iload_n hx hb dX3_missing_96 rfl (lv_at hl 0 rfl) ?_
              exact ret _ _ _ _ _ _ (by exact ⟨by rw [zmiss_in hf, zmsf, if_neg (fun q => h21 q.1), if_neg (fun q => hlw q.1), if_pos ⟨h78, h89⟩] <;> exact congrArg (fun z => some (Value.int z)) (by decide), _, 6, rfl, by omega, hN2⟩) hP hD hS dX3_missing_97
        · have hlw : 0 < fb_ct (zlow Gt f) 256 := by rw [← zlow_cong (zblk eN hf), zlow_iff]; exact ⟨c49, Int32.not_le.mp c54⟩
          refine lv_aload_n hx hb dX3_missing_57 rfl (lv_at hl 3 rfl) ?_
          refine lv_iload_n hx hb dX3_missing_58 rfl (lv_at hl 4 rfl) ?_
          refine lv_iconst (v := (1 : Int32)) hx hb dX3_missing_59 (by decide) ?_
          refine zq_cV (rest := []) ⟨hx, hb, hml, hown, hts⟩ (c_X3_hasClaim l D cI cZ cW cC ad st ln N2 fs fc hm (nI 6) kp cm PL pf n hn en co fo bo kF fF sF lh mF HC hfo f hf (1 : Int32) (zP2 kF) (fun i hi => by rw [zb1 (hk8 i hi)]; simp [zP2])) (cwV 2 hts gX3_missing_X3_hasClaim rfl rfl rfl (by decide +kernel) ⟨Nat.le_of_ble_eq_true rfl, Nat.le_of_ble_eq_true rfl⟩) hK hP 3 0 rfl rfl rfl hl.1 rfl (Nat.le_of_ble_eq_true rfl) dX3_missing_60 ⟨Nat.le_of_ble_eq_true rfl, Nat.le_of_ble_eq_true rfl⟩ (fun v hv => ?_)
          obtain rfl := hv
          refine W.eq (g2 := F0 m 63 ls [.int (if 0 < fb_ct (zhas fo f (zP2 kF)) n then (1 : Int32) else 0)]) rfl ?_
          refine lv_if_ne (tgt := 70) hx hb dX3_missing_63 (by decide) (fun c63 => ?_) (fun c63 => ?_)
          · have h63 := zif_a c63
            refine lv_aload_n hx hb dX3_missing_70 rfl (lv_at hl 3 rfl) ?_
            refine zq_get hx hb hts in_X3_missing_X3 hown hK hP 0 rfl rfl 0 (by decide) (hts _ w_X3_missing__fieldLink_RX3_12_WordsBeside_code_LWordsBeside_Code__2ab9f4) rfl dX3_missing_71 ?_
            refine lv_iload_n hx hb dX3_missing_74 rfl (lv_at hl 4 rfl) ?_
            refine zq_cV (rest := []) ⟨hx, hb, hml, hown, hts⟩ (zq_ro_mono (c_X1_length l D cI cZ cW cC (ad 1) (ad 2) (ad 3) st ln f hf) (fun v h => h.trans (congrArg (fun z => some (Value.int z)) (HL f hf).1))) (cwV 1 hts gX3_missing_X1_length rfl rfl rfl (by decide +kernel) ⟨Nat.le_of_ble_eq_true rfl, Nat.le_of_ble_eq_true rfl⟩) hK (zP_3 (hP 1 _ rfl) (hP 2 _ rfl) (hP 3 _ rfl)) 1 0 rfl rfl rfl hl.1 rfl (Nat.le_of_ble_eq_true rfl) dX3_missing_75 ⟨Nat.le_of_ble_eq_true rfl, Nat.le_of_ble_eq_true rfl⟩ (fun v hv => ?_)
            obtain rfl := hv
            refine W.eq (g2 := F0 m 78 ls [.int (nI (L f))]) rfl ?_
            refine lv_if_le (tgt := 96) hx hb dX3_missing_78 (by decide) (fun c78 => ?_) (fun c78 => ?_)
            · have h78 : ¬ 0 < L f := by have := (HL f hf).2; have := zle (show nI (L f) ≤ nI 0 from c78); omega
              refine lv_iload_n hx hb dX3_missing_96 rfl (lv_at hl 1 rfl) ?_
              exact ret _ _ _ _ _ _ (by exact ⟨by rw [zmiss_in hf, zmsf, if_neg (fun q => h21 q.1), if_neg (fun q => q.2 h63), if_neg (fun q => h78 q.1)] <;> exact congrArg (fun z => some (Value.int z)) (by decide), _, 6, rfl, by omega, hN2⟩) hP hD hS dX3_missing_97
            · have h78 : 0 < L f := by have := (HL f hf).2; exact znle (show ¬ nI (L f) ≤ nI 0 from c78)
              refine lv_aload_n hx hb dX3_missing_81 rfl (lv_at hl 3 rfl) ?_
              refine lv_iload_n hx hb dX3_missing_82 rfl (lv_at hl 4 rfl) ?_
              refine lv_sipush (v := (nI 255)) hx hb dX3_missing_83 (by decide) ?_
              refine zq_cV (rest := []) ⟨hx, hb, hml, hown, hts⟩ (c_X3_hasClaim l D cI cZ cW cC ad st ln N2 fs fc hm (nI 6) kp cm PL pf n hn en co fo bo kF fF sF lh mF HC hfo f hf (nI 255) zP3 (fun i hi => by rw [zb255 (hk8 i hi)]; simp [zP3])) (cwV 2 hts gX3_missing_X3_hasClaim rfl rfl rfl (by decide +kernel) ⟨Nat.le_of_ble_eq_true rfl, Nat.le_of_ble_eq_true rfl⟩) hK hP 3 0 rfl rfl rfl hl.1 rfl (Nat.le_of_ble_eq_true rfl) dX3_missing_86 ⟨Nat.le_of_ble_eq_true rfl, Nat.le_of_ble_eq_true rfl⟩ (fun v hv => ?_)
              obtain rfl := hv
              refine W.eq (g2 := F0 m 89 ls [.int (if 0 < fb_ct (zhas fo f zP3) n then (1 : Int32) else 0)]) rfl ?_
              refine lv_if_ne (tgt := 96) hx hb dX3_missing_89 (by decide) (fun c89 => ?_) (fun c89 => ?_)
              · have h89 := zif_a c89
                refine lv_iload_n hx hb dX3_missing_96 rfl (lv_at hl 1 rfl) ?_
                exact ret _ _ _ _ _ _ (by exact ⟨by rw [zmiss_in hf, zmsf, if_neg (fun q => h21 q.1), if_neg (fun q => q.2 h63), if_neg (fun q => q.2 h89)] <;> exact congrArg (fun z => some (Value.int z)) (by decide), _, 6, rfl, by omega, hN2⟩) hP hD hS dX3_missing_97
              · have h89 := zif_b c89
                refine lv_iload_n hx hb dX3_missing_92 rfl (lv_at hl 1 rfl) ?_
                refine lv_iconst (v := (4 : Int32)) hx hb dX3_missing_93 (by decide) ?_
                refine lv_ior hx hb dX3_missing_94 ?_
                refine lv_istore_n (lv' := [(3, .int ((0 : Int32) ||| (4 : Int32))), (4, .int (zlst N2 f 256)), (2, .ref (ad 4)), (0, .ref (ad 0)), (1, .int (nI f))]) hx hb dX3_missing_95 rfl hl (by decide) rfl (fun ls hl => ?_)
                refine lv_iload_n hx hb dX3_missing_96 rfl (lv_at hl 0 rfl) ?_
                exact ret _ _ _ _ _ _ (by exact ⟨by rw [zmiss_in hf, zmsf, if_neg (fun q => h21 q.1), if_neg (fun q => q.2 h63), if_pos ⟨h78, h89⟩] <;> exact congrArg (fun z => some (Value.int z)) (by decide), _, 6, rfl, by omega, hN2⟩) hP hD hS dX3_missing_97
          · have h63 := zif_b c63
            refine lv_iload_n hx hb dX3_missing_66 rfl (lv_at hl 1 rfl) ?_
            refine lv_iconst (v := (2 : Int32)) hx hb dX3_missing_67 (by decide) ?_
            refine lv_ior hx hb dX3_missing_68 ?_
            refine lv_istore_n (lv' := [(3, .int ((0 : Int32) ||| (2 : Int32))), (4, .int (zlst N2 f 256)), (2, .ref (ad 4)), (0, .ref (ad 0)), (1, .int (nI f))]) hx hb dX3_missing_69 rfl hl (by decide) rfl (fun ls hl => ?_)
            refine lv_aload_n hx hb dX3_missing_70 rfl (lv_at hl 3 rfl) ?_
            refine zq_get hx hb hts in_X3_missing_X3 hown hK hP 0 rfl rfl 0 (by decide) (hts _ w_X3_missing__fieldLink_RX3_12_WordsBeside_code_LWordsBeside_Code__2ab9f4) rfl dX3_missing_71 ?_
            refine lv_iload_n hx hb dX3_missing_74 rfl (lv_at hl 4 rfl) ?_
            refine zq_cV (rest := []) ⟨hx, hb, hml, hown, hts⟩ (zq_ro_mono (c_X1_length l D cI cZ cW cC (ad 1) (ad 2) (ad 3) st ln f hf) (fun v h => h.trans (congrArg (fun z => some (Value.int z)) (HL f hf).1))) (cwV 1 hts gX3_missing_X1_length rfl rfl rfl (by decide +kernel) ⟨Nat.le_of_ble_eq_true rfl, Nat.le_of_ble_eq_true rfl⟩) hK (zP_3 (hP 1 _ rfl) (hP 2 _ rfl) (hP 3 _ rfl)) 1 0 rfl rfl rfl hl.1 rfl (Nat.le_of_ble_eq_true rfl) dX3_missing_75 ⟨Nat.le_of_ble_eq_true rfl, Nat.le_of_ble_eq_true rfl⟩ (fun v hv => ?_)
            obtain rfl := hv
            refine W.eq (g2 := F0 m 78 ls [.int (nI (L f))]) rfl ?_
            refine lv_if_le (tgt := 96) hx hb dX3_missing_78 (by decide) (fun c78 => ?_) (fun c78 => ?_)
            · have h78 : ¬ 0 < L f := by have := (HL f hf).2; have := zle (show nI (L f) ≤ nI 0 from c78); omega
              refine lv_iload_n hx hb dX3_missing_96 rfl (lv_at hl 0 rfl) ?_
              exact ret _ _ _ _ _ _ (by exact ⟨by rw [zmiss_in hf, zmsf, if_neg (fun q => h21 q.1), if_pos ⟨hlw, h63⟩, if_neg (fun q => h78 q.1)] <;> exact congrArg (fun z => some (Value.int z)) (by decide), _, 6, rfl, by omega, hN2⟩) hP hD hS dX3_missing_97
            · have h78 : 0 < L f := by have := (HL f hf).2; exact znle (show ¬ nI (L f) ≤ nI 0 from c78)
              refine lv_aload_n hx hb dX3_missing_81 rfl (lv_at hl 3 rfl) ?_
              refine lv_iload_n hx hb dX3_missing_82 rfl (lv_at hl 4 rfl) ?_
              refine lv_sipush (v := (nI 255)) hx hb dX3_missing_83 (by decide) ?_
              refine zq_cV (rest := []) ⟨hx, hb, hml, hown, hts⟩ (c_X3_hasClaim l D cI cZ cW cC ad st ln N2 fs fc hm (nI 6) kp cm PL pf n hn en co fo bo kF fF sF lh mF HC hfo f hf (nI 255) zP3 (fun i hi => by rw [zb255 (hk8 i hi)]; simp [zP3])) (cwV 2 hts gX3_missing_X3_hasClaim rfl rfl rfl (by decide +kernel) ⟨Nat.le_of_ble_eq_true rfl, Nat.le_of_ble_eq_true rfl⟩) hK hP 3 0 rfl rfl rfl hl.1 rfl (Nat.le_of_ble_eq_true rfl) dX3_missing_86 ⟨Nat.le_of_ble_eq_true rfl, Nat.le_of_ble_eq_true rfl⟩ (fun v hv => ?_)
              obtain rfl := hv
              refine W.eq (g2 := F0 m 89 ls [.int (if 0 < fb_ct (zhas fo f zP3) n then (1 : Int32) else 0)]) rfl ?_
              refine lv_if_ne (tgt := 96) hx hb dX3_missing_89 (by decide) (fun c89 => ?_) (fun c89 => ?_)
              · have h89 := zif_a c89
                refine lv_iload_n hx hb dX3_missing_96 rfl (lv_at hl 0 rfl) ?_
                exact ret _ _ _ _ _ _ (by exact ⟨by rw [zmiss_in hf, zmsf, if_neg (fun q => h21 q.1), if_pos ⟨hlw, h63⟩, if_neg (fun q => q.2 h89)] <;> exact congrArg (fun z => some (Value.int z)) (by decide), _, 6, rfl, by omega, hN2⟩) hP hD hS dX3_missing_97
              · have h89 := zif_b c89
                refine lv_iload_n hx hb dX3_missing_92 rfl (lv_at hl 0 rfl) ?_
                refine lv_iconst (v := (4 : Int32)) hx hb dX3_missing_93 (by decide) ?_
                refine lv_ior hx hb dX3_missing_94 ?_
                refine lv_istore_n (lv' := [(3, .int (((0 : Int32) ||| (2 : Int32)) ||| (4 : Int32))), (4, .int (zlst N2 f 256)), (2, .ref (ad 4)), (0, .ref (ad 0)), (1, .int (nI f))]) hx hb dX3_missing_95 rfl hl (by decide) rfl (fun ls hl => ?_)
                refine lv_iload_n hx hb dX3_missing_96 rfl (lv_at hl 0 rfl) ?_
                exact ret _ _ _ _ _ _ (by exact ⟨by rw [zmiss_in hf, zmsf, if_neg (fun q => h21 q.1), if_pos ⟨hlw, h63⟩, if_pos ⟨h78, h89⟩] <;> exact congrArg (fun z => some (Value.int z)) (by decide), _, 6, rfl, by omega, hN2⟩) hP hD hS dX3_missing_97
    · have h21 : 0 < fb_ct (zref Gt f) 256 := by have := znle (show ¬ nI (fb_ct (zref N2 f) 256) ≤ nI 0 from c21); rw [← fb_ct_cong (zref_cong (zblk eN hf))]; exact this
      refine lv_aload_n hx hb dX3_missing_24 rfl (lv_at hl 2 rfl) ?_
      refine lv_iload_n hx hb dX3_missing_25 rfl (lv_at hl 3 rfl) ?_
      refine lv_bipush (v := (nI 66)) hx hb dX3_missing_26 (by decide) ?_
      refine zq_cV (rest := []) ⟨hx, hb, hml, hown, hts⟩ (c_X3_hasClaim l D cI cZ cW cC ad st ln N2 fs fc hm (nI 6) kp cm PL pf n hn en co fo bo kF fF sF lh mF HC hfo f hf (nI 66) (zP1 kF) (fun i hi => by rw [zb66 (hk8 i hi)]; simp [zP1])) (cwV 2 hts gX3_missing_X3_hasClaim rfl rfl rfl (by decide +kernel) ⟨Nat.le_of_ble_eq_true rfl, Nat.le_of_ble_eq_true rfl⟩) hK hP 3 0 rfl rfl rfl hl.1 rfl (Nat.le_of_ble_eq_true rfl) dX3_missing_28 ⟨Nat.le_of_ble_eq_true rfl, Nat.le_of_ble_eq_true rfl⟩ (fun v hv => ?_)
      obtain rfl := hv
      refine W.eq (g2 := F0 m 31 ls [.int (if 0 < fb_ct (zhas fo f (zP1 kF)) n then (1 : Int32) else 0)]) rfl ?_
      refine lv_if_ne (tgt := 38) hx hb dX3_missing_31 (by decide) (fun c31 => ?_) (fun c31 => ?_)
      · have h31 := zif_a c31
        refine lv_aload_n hx hb dX3_missing_38 rfl (lv_at hl 1 rfl) ?_
        refine lv_iload_n hx hb dX3_missing_39 rfl (lv_at hl 3 rfl) ?_
        refine zq_cV (rest := []) ⟨hx, hb, hml, hown, hts⟩ (c_X2_least l D cI cZ cW cC (ad 4) (ad 5) N2 f hf) (cwV 1 hts gX3_missing_X2_least rfl rfl rfl (by decide +kernel) ⟨Nat.le_of_ble_eq_true rfl, Nat.le_of_ble_eq_true rfl⟩) hK (zP_2 (hP 4 _ rfl) (hP 5 _ rfl)) 2 0 rfl rfl rfl hl.1 rfl (Nat.le_of_ble_eq_true rfl) dX3_missing_40 ⟨Nat.le_of_ble_eq_true rfl, Nat.le_of_ble_eq_true rfl⟩ (fun v hv => ?_)
        obtain rfl := hv
        refine W.eq (g2 := F0 m 43 ls [.int (zlst N2 f 256)]) rfl ?_
        refine lv_istore (lv' := [(4, .int (zlst N2 f 256)), (3, .int (0 : Int32)), (2, .ref (ad 4)), (0, .ref (ad 0)), (1, .int (nI f))]) hx hb dX3_missing_43 hl (by decide) rfl (fun ls hl => ?_)
        refine lv_iload hx hb dX3_missing_45 (lv_at hl 0 rfl) ?_
        refine lv_ldc (v := (-2147483648 : Int32)) hx hb hown (hts _ w_X3_missing__constant_RX3_99_2147483648__ebb59d) dX3_missing_47 ?_
        refine lv_icmp_eq (tgt := 70) hx hb dX3_missing_49 (by decide) (fun c49 => ?_) (fun c49 => ?_)
        · have hlw : ¬ 0 < fb_ct (zlow Gt f) 256 := by rw [← zlow_cong (zblk eN hf), zlow_iff]; exact fun q => q.1 c49
          refine lv_aload_n hx hb dX3_missing_70 rfl (lv_at hl 3 rfl) ?_
          refine zq_get hx hb hts in_X3_missing_X3 hown hK hP 0 rfl rfl 0 (by decide) (hts _ w_X3_missing__fieldLink_RX3_12_WordsBeside_code_LWordsBeside_Code__2ab9f4) rfl dX3_missing_71 ?_
          refine lv_iload_n hx hb dX3_missing_74 rfl (lv_at hl 4 rfl) ?_
          refine zq_cV (rest := []) ⟨hx, hb, hml, hown, hts⟩ (zq_ro_mono (c_X1_length l D cI cZ cW cC (ad 1) (ad 2) (ad 3) st ln f hf) (fun v h => h.trans (congrArg (fun z => some (Value.int z)) (HL f hf).1))) (cwV 1 hts gX3_missing_X1_length rfl rfl rfl (by decide +kernel) ⟨Nat.le_of_ble_eq_true rfl, Nat.le_of_ble_eq_true rfl⟩) hK (zP_3 (hP 1 _ rfl) (hP 2 _ rfl) (hP 3 _ rfl)) 1 0 rfl rfl rfl hl.1 rfl (Nat.le_of_ble_eq_true rfl) dX3_missing_75 ⟨Nat.le_of_ble_eq_true rfl, Nat.le_of_ble_eq_true rfl⟩ (fun v hv => ?_)
          obtain rfl := hv
          refine W.eq (g2 := F0 m 78 ls [.int (nI (L f))]) rfl ?_
          refine lv_if_le (tgt := 96) hx hb dX3_missing_78 (by decide) (fun c78 => ?_) (fun c78 => ?_)
          · have h78 : ¬ 0 < L f := by have := (HL f hf).2; have := zle (show nI (L f) ≤ nI 0 from c78); omega
            refine lv_iload_n hx hb dX3_missing_96 rfl (lv_at hl 1 rfl) ?_
            exact ret _ _ _ _ _ _ (by exact ⟨by rw [zmiss_in hf, zmsf, if_neg (fun q => q.2 h31), if_neg (fun q => hlw q.1), if_neg (fun q => h78 q.1)] <;> exact congrArg (fun z => some (Value.int z)) (by decide), _, 6, rfl, by omega, hN2⟩) hP hD hS dX3_missing_97
          · have h78 : 0 < L f := by have := (HL f hf).2; exact znle (show ¬ nI (L f) ≤ nI 0 from c78)
            refine lv_aload_n hx hb dX3_missing_81 rfl (lv_at hl 3 rfl) ?_
            refine lv_iload_n hx hb dX3_missing_82 rfl (lv_at hl 4 rfl) ?_
            refine lv_sipush (v := (nI 255)) hx hb dX3_missing_83 (by decide) ?_
            refine zq_cV (rest := []) ⟨hx, hb, hml, hown, hts⟩ (c_X3_hasClaim l D cI cZ cW cC ad st ln N2 fs fc hm (nI 6) kp cm PL pf n hn en co fo bo kF fF sF lh mF HC hfo f hf (nI 255) zP3 (fun i hi => by rw [zb255 (hk8 i hi)]; simp [zP3])) (cwV 2 hts gX3_missing_X3_hasClaim rfl rfl rfl (by decide +kernel) ⟨Nat.le_of_ble_eq_true rfl, Nat.le_of_ble_eq_true rfl⟩) hK hP 3 0 rfl rfl rfl hl.1 rfl (Nat.le_of_ble_eq_true rfl) dX3_missing_86 ⟨Nat.le_of_ble_eq_true rfl, Nat.le_of_ble_eq_true rfl⟩ (fun v hv => ?_)
            obtain rfl := hv
            refine W.eq (g2 := F0 m 89 ls [.int (if 0 < fb_ct (zhas fo f zP3) n then (1 : Int32) else 0)]) rfl ?_
            refine lv_if_ne (tgt := 96) hx hb dX3_missing_89 (by decide) (fun c89 => ?_) (fun c89 => ?_)
            · have h89 := zif_a c89
              refine lv_iload_n hx hb dX3_missing_96 rfl (lv_at hl 1 rfl) ?_
              exact ret _ _ _ _ _ _ (by exact ⟨by rw [zmiss_in hf, zmsf, if_neg (fun q => q.2 h31), if_neg (fun q => hlw q.1), if_neg (fun q => q.2 h89)] <;> exact congrArg (fun z => some (Value.int z)) (by decide), _, 6, rfl, by omega, hN2⟩) hP hD hS dX3_missing_97
            · have h89 := zif_b c89
              refine lv_iload_n hx hb dX3_missing_92 rfl (lv_at hl 1 rfl) ?_
              refine lv_iconst (v := (4 : Int32)) hx hb dX3_missing_93 (by decide) ?_
              refine lv_ior hx hb dX3_missing_94 ?_
              refine lv_istore_n (lv' := [(3, .int ((0 : Int32) ||| (4 : Int32))), (4, .int (zlst N2 f 256)), (2, .ref (ad 4)), (0, .ref (ad 0)), (1, .int (nI f))]) hx hb dX3_missing_95 rfl hl (by decide) rfl (fun ls hl => ?_)
              refine lv_iload_n hx hb dX3_missing_96 rfl (lv_at hl 0 rfl) ?_
              exact ret _ _ _ _ _ _ (by exact ⟨by rw [zmiss_in hf, zmsf, if_neg (fun q => q.2 h31), if_neg (fun q => hlw q.1), if_pos ⟨h78, h89⟩] <;> exact congrArg (fun z => some (Value.int z)) (by decide), _, 6, rfl, by omega, hN2⟩) hP hD hS dX3_missing_97
        · refine lv_iload hx hb dX3_missing_52 (lv_at hl 0 rfl) ?_
          refine lv_if_ge (tgt := 70) hx hb dX3_missing_54 (by decide) (fun c54 => ?_) (fun c54 => ?_)
          · have hlw : ¬ 0 < fb_ct (zlow Gt f) 256 := by rw [← zlow_cong (zblk eN hf), zlow_iff]; exact fun q => absurd q.2 (Int32.not_lt.mpr c54)
            refine lv_aload_n hx hb dX3_missing_70 rfl (lv_at hl 3 rfl) ?_
            refine zq_get hx hb hts in_X3_missing_X3 hown hK hP 0 rfl rfl 0 (by decide) (hts _ w_X3_missing__fieldLink_RX3_12_WordsBeside_code_LWordsBeside_Code__2ab9f4) rfl dX3_missing_71 ?_
            refine lv_iload_n hx hb dX3_missing_74 rfl (lv_at hl 4 rfl) ?_
            refine zq_cV (rest := []) ⟨hx, hb, hml, hown, hts⟩ (zq_ro_mono (c_X1_length l D cI cZ cW cC (ad 1) (ad 2) (ad 3) st ln f hf) (fun v h => h.trans (congrArg (fun z => some (Value.int z)) (HL f hf).1))) (cwV 1 hts gX3_missing_X1_length rfl rfl rfl (by decide +kernel) ⟨Nat.le_of_ble_eq_true rfl, Nat.le_of_ble_eq_true rfl⟩) hK (zP_3 (hP 1 _ rfl) (hP 2 _ rfl) (hP 3 _ rfl)) 1 0 rfl rfl rfl hl.1 rfl (Nat.le_of_ble_eq_true rfl) dX3_missing_75 ⟨Nat.le_of_ble_eq_true rfl, Nat.le_of_ble_eq_true rfl⟩ (fun v hv => ?_)
            obtain rfl := hv
            refine W.eq (g2 := F0 m 78 ls [.int (nI (L f))]) rfl ?_
            refine lv_if_le (tgt := 96) hx hb dX3_missing_78 (by decide) (fun c78 => ?_) (fun c78 => ?_)
            · have h78 : ¬ 0 < L f := by have := (HL f hf).2; have := zle (show nI (L f) ≤ nI 0 from c78); omega
              refine lv_iload_n hx hb dX3_missing_96 rfl (lv_at hl 1 rfl) ?_
              exact ret _ _ _ _ _ _ (by exact ⟨by rw [zmiss_in hf, zmsf, if_neg (fun q => q.2 h31), if_neg (fun q => hlw q.1), if_neg (fun q => h78 q.1)] <;> exact congrArg (fun z => some (Value.int z)) (by decide), _, 6, rfl, by omega, hN2⟩) hP hD hS dX3_missing_97
            · have h78 : 0 < L f := by have := (HL f hf).2; exact znle (show ¬ nI (L f) ≤ nI 0 from c78)
              refine lv_aload_n hx hb dX3_missing_81 rfl (lv_at hl 3 rfl) ?_
              refine lv_iload_n hx hb dX3_missing_82 rfl (lv_at hl 4 rfl) ?_
              refine lv_sipush (v := (nI 255)) hx hb dX3_missing_83 (by decide) ?_
              refine zq_cV (rest := []) ⟨hx, hb, hml, hown, hts⟩ (c_X3_hasClaim l D cI cZ cW cC ad st ln N2 fs fc hm (nI 6) kp cm PL pf n hn en co fo bo kF fF sF lh mF HC hfo f hf (nI 255) zP3 (fun i hi => by rw [zb255 (hk8 i hi)]; simp [zP3])) (cwV 2 hts gX3_missing_X3_hasClaim rfl rfl rfl (by decide +kernel) ⟨Nat.le_of_ble_eq_true rfl, Nat.le_of_ble_eq_true rfl⟩) hK hP 3 0 rfl rfl rfl hl.1 rfl (Nat.le_of_ble_eq_true rfl) dX3_missing_86 ⟨Nat.le_of_ble_eq_true rfl, Nat.le_of_ble_eq_true rfl⟩ (fun v hv => ?_)
              obtain rfl := hv
              refine W.eq (g2 := F0 m 89 ls [.int (if 0 < fb_ct (zhas fo f zP3) n then (1 : Int32) else 0)]) rfl ?_
              refine lv_if_ne (tgt := 96) hx hb dX3_missing_89 (by decide) (fun c89 => ?_) (fun c89 => ?_)
              · have h89 := zif_a c89
                refine lv_iload_n hx hb dX3_missing_96 rfl (lv_at hl 1 rfl) ?_
                exact ret _ _ _ _ _ _ (by exact ⟨by rw [zmiss_in hf, zmsf, if_neg (fun q => q.2 h31), if_neg (fun q => hlw q.1), if_neg (fun q => q.2 h89)] <;> exact congrArg (fun z => some (Value.int z)) (by decide), _, 6, rfl, by omega, hN2⟩) hP hD hS dX3_missing_97
              · have h89 := zif_b c89
                refine lv_iload_n hx hb dX3_missing_92 rfl (lv_at hl 1 rfl) ?_
                refine lv_iconst (v := (4 : Int32)) hx hb dX3_missing_93 (by decide) ?_
                refine lv_ior hx hb dX3_missing_94 ?_
                refine lv_istore_n (lv' := [(3, .int ((0 : Int32) ||| (4 : Int32))), (4, .int (zlst N2 f 256)), (2, .ref (ad 4)), (0, .ref (ad 0)), (1, .int (nI f))]) hx hb dX3_missing_95 rfl hl (by decide) rfl (fun ls hl => ?_)
                refine lv_iload_n hx hb dX3_missing_96 rfl (lv_at hl 0 rfl) ?_
                exact ret _ _ _ _ _ _ (by exact ⟨by rw [zmiss_in hf, zmsf, if_neg (fun q => q.2 h31), if_neg (fun q => hlw q.1), if_pos ⟨h78, h89⟩] <;> exact congrArg (fun z => some (Value.int z)) (by decide), _, 6, rfl, by omega, hN2⟩) hP hD hS dX3_missing_97
          · have hlw : 0 < fb_ct (zlow Gt f) 256 := by rw [← zlow_cong (zblk eN hf), zlow_iff]; exact ⟨c49, Int32.not_le.mp c54⟩
            refine lv_aload_n hx hb dX3_missing_57 rfl (lv_at hl 3 rfl) ?_
            refine lv_iload_n hx hb dX3_missing_58 rfl (lv_at hl 4 rfl) ?_
            refine lv_iconst (v := (1 : Int32)) hx hb dX3_missing_59 (by decide) ?_
            refine zq_cV (rest := []) ⟨hx, hb, hml, hown, hts⟩ (c_X3_hasClaim l D cI cZ cW cC ad st ln N2 fs fc hm (nI 6) kp cm PL pf n hn en co fo bo kF fF sF lh mF HC hfo f hf (1 : Int32) (zP2 kF) (fun i hi => by rw [zb1 (hk8 i hi)]; simp [zP2])) (cwV 2 hts gX3_missing_X3_hasClaim rfl rfl rfl (by decide +kernel) ⟨Nat.le_of_ble_eq_true rfl, Nat.le_of_ble_eq_true rfl⟩) hK hP 3 0 rfl rfl rfl hl.1 rfl (Nat.le_of_ble_eq_true rfl) dX3_missing_60 ⟨Nat.le_of_ble_eq_true rfl, Nat.le_of_ble_eq_true rfl⟩ (fun v hv => ?_)
            obtain rfl := hv
            refine W.eq (g2 := F0 m 63 ls [.int (if 0 < fb_ct (zhas fo f (zP2 kF)) n then (1 : Int32) else 0)]) rfl ?_
            refine lv_if_ne (tgt := 70) hx hb dX3_missing_63 (by decide) (fun c63 => ?_) (fun c63 => ?_)
            · have h63 := zif_a c63
              refine lv_aload_n hx hb dX3_missing_70 rfl (lv_at hl 3 rfl) ?_
              refine zq_get hx hb hts in_X3_missing_X3 hown hK hP 0 rfl rfl 0 (by decide) (hts _ w_X3_missing__fieldLink_RX3_12_WordsBeside_code_LWordsBeside_Code__2ab9f4) rfl dX3_missing_71 ?_
              refine lv_iload_n hx hb dX3_missing_74 rfl (lv_at hl 4 rfl) ?_
              refine zq_cV (rest := []) ⟨hx, hb, hml, hown, hts⟩ (zq_ro_mono (c_X1_length l D cI cZ cW cC (ad 1) (ad 2) (ad 3) st ln f hf) (fun v h => h.trans (congrArg (fun z => some (Value.int z)) (HL f hf).1))) (cwV 1 hts gX3_missing_X1_length rfl rfl rfl (by decide +kernel) ⟨Nat.le_of_ble_eq_true rfl, Nat.le_of_ble_eq_true rfl⟩) hK (zP_3 (hP 1 _ rfl) (hP 2 _ rfl) (hP 3 _ rfl)) 1 0 rfl rfl rfl hl.1 rfl (Nat.le_of_ble_eq_true rfl) dX3_missing_75 ⟨Nat.le_of_ble_eq_true rfl, Nat.le_of_ble_eq_true rfl⟩ (fun v hv => ?_)
              obtain rfl := hv
              refine W.eq (g2 := F0 m 78 ls [.int (nI (L f))]) rfl ?_
              refine lv_if_le (tgt := 96) hx hb dX3_missing_78 (by decide) (fun c78 => ?_) (fun c78 => ?_)
              · have h78 : ¬ 0 < L f := by have := (HL f hf).2; have := zle (show nI (L f) ≤ nI 0 from c78); omega
                refine lv_iload_n hx hb dX3_missing_96 rfl (lv_at hl 1 rfl) ?_
                exact ret _ _ _ _ _ _ (by exact ⟨by rw [zmiss_in hf, zmsf, if_neg (fun q => q.2 h31), if_neg (fun q => q.2 h63), if_neg (fun q => h78 q.1)] <;> exact congrArg (fun z => some (Value.int z)) (by decide), _, 6, rfl, by omega, hN2⟩) hP hD hS dX3_missing_97
              · have h78 : 0 < L f := by have := (HL f hf).2; exact znle (show ¬ nI (L f) ≤ nI 0 from c78)
                refine lv_aload_n hx hb dX3_missing_81 rfl (lv_at hl 3 rfl) ?_
                refine lv_iload_n hx hb dX3_missing_82 rfl (lv_at hl 4 rfl) ?_
                refine lv_sipush (v := (nI 255)) hx hb dX3_missing_83 (by decide) ?_
                refine zq_cV (rest := []) ⟨hx, hb, hml, hown, hts⟩ (c_X3_hasClaim l D cI cZ cW cC ad st ln N2 fs fc hm (nI 6) kp cm PL pf n hn en co fo bo kF fF sF lh mF HC hfo f hf (nI 255) zP3 (fun i hi => by rw [zb255 (hk8 i hi)]; simp [zP3])) (cwV 2 hts gX3_missing_X3_hasClaim rfl rfl rfl (by decide +kernel) ⟨Nat.le_of_ble_eq_true rfl, Nat.le_of_ble_eq_true rfl⟩) hK hP 3 0 rfl rfl rfl hl.1 rfl (Nat.le_of_ble_eq_true rfl) dX3_missing_86 ⟨Nat.le_of_ble_eq_true rfl, Nat.le_of_ble_eq_true rfl⟩ (fun v hv => ?_)
                obtain rfl := hv
                refine W.eq (g2 := F0 m 89 ls [.int (if 0 < fb_ct (zhas fo f zP3) n then (1 : Int32) else 0)]) rfl ?_
                refine lv_if_ne (tgt := 96) hx hb dX3_missing_89 (by decide) (fun c89 => ?_) (fun c89 => ?_)
                · have h89 := zif_a c89
                  refine lv_iload_n hx hb dX3_missing_96 rfl (lv_at hl 1 rfl) ?_
                  exact ret _ _ _ _ _ _ (by exact ⟨by rw [zmiss_in hf, zmsf, if_neg (fun q => q.2 h31), if_neg (fun q => q.2 h63), if_neg (fun q => q.2 h89)] <;> exact congrArg (fun z => some (Value.int z)) (by decide), _, 6, rfl, by omega, hN2⟩) hP hD hS dX3_missing_97
                · have h89 := zif_b c89
                  refine lv_iload_n hx hb dX3_missing_92 rfl (lv_at hl 1 rfl) ?_
                  refine lv_iconst (v := (4 : Int32)) hx hb dX3_missing_93 (by decide) ?_
                  refine lv_ior hx hb dX3_missing_94 ?_
                  refine lv_istore_n (lv' := [(3, .int ((0 : Int32) ||| (4 : Int32))), (4, .int (zlst N2 f 256)), (2, .ref (ad 4)), (0, .ref (ad 0)), (1, .int (nI f))]) hx hb dX3_missing_95 rfl hl (by decide) rfl (fun ls hl => ?_)
                  refine lv_iload_n hx hb dX3_missing_96 rfl (lv_at hl 0 rfl) ?_
                  exact ret _ _ _ _ _ _ (by exact ⟨by rw [zmiss_in hf, zmsf, if_neg (fun q => q.2 h31), if_neg (fun q => q.2 h63), if_pos ⟨h78, h89⟩] <;> exact congrArg (fun z => some (Value.int z)) (by decide), _, 6, rfl, by omega, hN2⟩) hP hD hS dX3_missing_97
            · have h63 := zif_b c63
              refine lv_iload_n hx hb dX3_missing_66 rfl (lv_at hl 1 rfl) ?_
              refine lv_iconst (v := (2 : Int32)) hx hb dX3_missing_67 (by decide) ?_
              refine lv_ior hx hb dX3_missing_68 ?_
              refine lv_istore_n (lv' := [(3, .int ((0 : Int32) ||| (2 : Int32))), (4, .int (zlst N2 f 256)), (2, .ref (ad 4)), (0, .ref (ad 0)), (1, .int (nI f))]) hx hb dX3_missing_69 rfl hl (by decide) rfl (fun ls hl => ?_)
              refine lv_aload_n hx hb dX3_missing_70 rfl (lv_at hl 3 rfl) ?_
              refine zq_get hx hb hts in_X3_missing_X3 hown hK hP 0 rfl rfl 0 (by decide) (hts _ w_X3_missing__fieldLink_RX3_12_WordsBeside_code_LWordsBeside_Code__2ab9f4) rfl dX3_missing_71 ?_
              refine lv_iload_n hx hb dX3_missing_74 rfl (lv_at hl 4 rfl) ?_
              refine zq_cV (rest := []) ⟨hx, hb, hml, hown, hts⟩ (zq_ro_mono (c_X1_length l D cI cZ cW cC (ad 1) (ad 2) (ad 3) st ln f hf) (fun v h => h.trans (congrArg (fun z => some (Value.int z)) (HL f hf).1))) (cwV 1 hts gX3_missing_X1_length rfl rfl rfl (by decide +kernel) ⟨Nat.le_of_ble_eq_true rfl, Nat.le_of_ble_eq_true rfl⟩) hK (zP_3 (hP 1 _ rfl) (hP 2 _ rfl) (hP 3 _ rfl)) 1 0 rfl rfl rfl hl.1 rfl (Nat.le_of_ble_eq_true rfl) dX3_missing_75 ⟨Nat.le_of_ble_eq_true rfl, Nat.le_of_ble_eq_true rfl⟩ (fun v hv => ?_)
              obtain rfl := hv
              refine W.eq (g2 := F0 m 78 ls [.int (nI (L f))]) rfl ?_
              refine lv_if_le (tgt := 96) hx hb dX3_missing_78 (by decide) (fun c78 => ?_) (fun c78 => ?_)
              · have h78 : ¬ 0 < L f := by have := (HL f hf).2; have := zle (show nI (L f) ≤ nI 0 from c78); omega
                refine lv_iload_n hx hb dX3_missing_96 rfl (lv_at hl 0 rfl) ?_
                exact ret _ _ _ _ _ _ (by exact ⟨by rw [zmiss_in hf, zmsf, if_neg (fun q => q.2 h31), if_pos ⟨hlw, h63⟩, if_neg (fun q => h78 q.1)] <;> exact congrArg (fun z => some (Value.int z)) (by decide), _, 6, rfl, by omega, hN2⟩) hP hD hS dX3_missing_97
              · have h78 : 0 < L f := by have := (HL f hf).2; exact znle (show ¬ nI (L f) ≤ nI 0 from c78)
                refine lv_aload_n hx hb dX3_missing_81 rfl (lv_at hl 3 rfl) ?_
                refine lv_iload_n hx hb dX3_missing_82 rfl (lv_at hl 4 rfl) ?_
                refine lv_sipush (v := (nI 255)) hx hb dX3_missing_83 (by decide) ?_
                refine zq_cV (rest := []) ⟨hx, hb, hml, hown, hts⟩ (c_X3_hasClaim l D cI cZ cW cC ad st ln N2 fs fc hm (nI 6) kp cm PL pf n hn en co fo bo kF fF sF lh mF HC hfo f hf (nI 255) zP3 (fun i hi => by rw [zb255 (hk8 i hi)]; simp [zP3])) (cwV 2 hts gX3_missing_X3_hasClaim rfl rfl rfl (by decide +kernel) ⟨Nat.le_of_ble_eq_true rfl, Nat.le_of_ble_eq_true rfl⟩) hK hP 3 0 rfl rfl rfl hl.1 rfl (Nat.le_of_ble_eq_true rfl) dX3_missing_86 ⟨Nat.le_of_ble_eq_true rfl, Nat.le_of_ble_eq_true rfl⟩ (fun v hv => ?_)
                obtain rfl := hv
                refine W.eq (g2 := F0 m 89 ls [.int (if 0 < fb_ct (zhas fo f zP3) n then (1 : Int32) else 0)]) rfl ?_
                refine lv_if_ne (tgt := 96) hx hb dX3_missing_89 (by decide) (fun c89 => ?_) (fun c89 => ?_)
                · have h89 := zif_a c89
                  refine lv_iload_n hx hb dX3_missing_96 rfl (lv_at hl 0 rfl) ?_
                  exact ret _ _ _ _ _ _ (by exact ⟨by rw [zmiss_in hf, zmsf, if_neg (fun q => q.2 h31), if_pos ⟨hlw, h63⟩, if_neg (fun q => q.2 h89)] <;> exact congrArg (fun z => some (Value.int z)) (by decide), _, 6, rfl, by omega, hN2⟩) hP hD hS dX3_missing_97
                · have h89 := zif_b c89
                  refine lv_iload_n hx hb dX3_missing_92 rfl (lv_at hl 0 rfl) ?_
                  refine lv_iconst (v := (4 : Int32)) hx hb dX3_missing_93 (by decide) ?_
                  refine lv_ior hx hb dX3_missing_94 ?_
                  refine lv_istore_n (lv' := [(3, .int (((0 : Int32) ||| (2 : Int32)) ||| (4 : Int32))), (4, .int (zlst N2 f 256)), (2, .ref (ad 4)), (0, .ref (ad 0)), (1, .int (nI f))]) hx hb dX3_missing_95 rfl hl (by decide) rfl (fun ls hl => ?_)
                  refine lv_iload_n hx hb dX3_missing_96 rfl (lv_at hl 0 rfl) ?_
                  exact ret _ _ _ _ _ _ (by exact ⟨by rw [zmiss_in hf, zmsf, if_neg (fun q => q.2 h31), if_pos ⟨hlw, h63⟩, if_pos ⟨h78, h89⟩] <;> exact congrArg (fun z => some (Value.int z)) (by decide), _, 6, rfl, by omega, hN2⟩) hP hD hS dX3_missing_97
      · have h31 := zif_b c31
        refine lv_iload_n hx hb dX3_missing_34 rfl (lv_at hl 0 rfl) ?_
        refine lv_iconst (v := (1 : Int32)) hx hb dX3_missing_35 (by decide) ?_
        refine lv_ior hx hb dX3_missing_36 ?_
        refine lv_istore_n (lv' := [(3, .int ((0 : Int32) ||| (1 : Int32))), (2, .ref (ad 4)), (0, .ref (ad 0)), (1, .int (nI f))]) hx hb dX3_missing_37 rfl hl (by decide) rfl (fun ls hl => ?_)
        refine lv_aload_n hx hb dX3_missing_38 rfl (lv_at hl 1 rfl) ?_
        refine lv_iload_n hx hb dX3_missing_39 rfl (lv_at hl 3 rfl) ?_
        refine zq_cV (rest := []) ⟨hx, hb, hml, hown, hts⟩ (c_X2_least l D cI cZ cW cC (ad 4) (ad 5) N2 f hf) (cwV 1 hts gX3_missing_X2_least rfl rfl rfl (by decide +kernel) ⟨Nat.le_of_ble_eq_true rfl, Nat.le_of_ble_eq_true rfl⟩) hK (zP_2 (hP 4 _ rfl) (hP 5 _ rfl)) 2 0 rfl rfl rfl hl.1 rfl (Nat.le_of_ble_eq_true rfl) dX3_missing_40 ⟨Nat.le_of_ble_eq_true rfl, Nat.le_of_ble_eq_true rfl⟩ (fun v hv => ?_)
        obtain rfl := hv
        refine W.eq (g2 := F0 m 43 ls [.int (zlst N2 f 256)]) rfl ?_
        refine lv_istore (lv' := [(4, .int (zlst N2 f 256)), (3, .int ((0 : Int32) ||| (1 : Int32))), (2, .ref (ad 4)), (0, .ref (ad 0)), (1, .int (nI f))]) hx hb dX3_missing_43 hl (by decide) rfl (fun ls hl => ?_)
        refine lv_iload hx hb dX3_missing_45 (lv_at hl 0 rfl) ?_
        refine lv_ldc (v := (-2147483648 : Int32)) hx hb hown (hts _ w_X3_missing__constant_RX3_99_2147483648__ebb59d) dX3_missing_47 ?_
        refine lv_icmp_eq (tgt := 70) hx hb dX3_missing_49 (by decide) (fun c49 => ?_) (fun c49 => ?_)
        · have hlw : ¬ 0 < fb_ct (zlow Gt f) 256 := by rw [← zlow_cong (zblk eN hf), zlow_iff]; exact fun q => q.1 c49
          refine lv_aload_n hx hb dX3_missing_70 rfl (lv_at hl 3 rfl) ?_
          refine zq_get hx hb hts in_X3_missing_X3 hown hK hP 0 rfl rfl 0 (by decide) (hts _ w_X3_missing__fieldLink_RX3_12_WordsBeside_code_LWordsBeside_Code__2ab9f4) rfl dX3_missing_71 ?_
          refine lv_iload_n hx hb dX3_missing_74 rfl (lv_at hl 4 rfl) ?_
          refine zq_cV (rest := []) ⟨hx, hb, hml, hown, hts⟩ (zq_ro_mono (c_X1_length l D cI cZ cW cC (ad 1) (ad 2) (ad 3) st ln f hf) (fun v h => h.trans (congrArg (fun z => some (Value.int z)) (HL f hf).1))) (cwV 1 hts gX3_missing_X1_length rfl rfl rfl (by decide +kernel) ⟨Nat.le_of_ble_eq_true rfl, Nat.le_of_ble_eq_true rfl⟩) hK (zP_3 (hP 1 _ rfl) (hP 2 _ rfl) (hP 3 _ rfl)) 1 0 rfl rfl rfl hl.1 rfl (Nat.le_of_ble_eq_true rfl) dX3_missing_75 ⟨Nat.le_of_ble_eq_true rfl, Nat.le_of_ble_eq_true rfl⟩ (fun v hv => ?_)
          obtain rfl := hv
          refine W.eq (g2 := F0 m 78 ls [.int (nI (L f))]) rfl ?_
          refine lv_if_le (tgt := 96) hx hb dX3_missing_78 (by decide) (fun c78 => ?_) (fun c78 => ?_)
          · have h78 : ¬ 0 < L f := by have := (HL f hf).2; have := zle (show nI (L f) ≤ nI 0 from c78); omega
            refine lv_iload_n hx hb dX3_missing_96 rfl (lv_at hl 1 rfl) ?_
            exact ret _ _ _ _ _ _ (by exact ⟨by rw [zmiss_in hf, zmsf, if_pos ⟨h21, h31⟩, if_neg (fun q => hlw q.1), if_neg (fun q => h78 q.1)] <;> exact congrArg (fun z => some (Value.int z)) (by decide), _, 6, rfl, by omega, hN2⟩) hP hD hS dX3_missing_97
          · have h78 : 0 < L f := by have := (HL f hf).2; exact znle (show ¬ nI (L f) ≤ nI 0 from c78)
            refine lv_aload_n hx hb dX3_missing_81 rfl (lv_at hl 3 rfl) ?_
            refine lv_iload_n hx hb dX3_missing_82 rfl (lv_at hl 4 rfl) ?_
            refine lv_sipush (v := (nI 255)) hx hb dX3_missing_83 (by decide) ?_
            refine zq_cV (rest := []) ⟨hx, hb, hml, hown, hts⟩ (c_X3_hasClaim l D cI cZ cW cC ad st ln N2 fs fc hm (nI 6) kp cm PL pf n hn en co fo bo kF fF sF lh mF HC hfo f hf (nI 255) zP3 (fun i hi => by rw [zb255 (hk8 i hi)]; simp [zP3])) (cwV 2 hts gX3_missing_X3_hasClaim rfl rfl rfl (by decide +kernel) ⟨Nat.le_of_ble_eq_true rfl, Nat.le_of_ble_eq_true rfl⟩) hK hP 3 0 rfl rfl rfl hl.1 rfl (Nat.le_of_ble_eq_true rfl) dX3_missing_86 ⟨Nat.le_of_ble_eq_true rfl, Nat.le_of_ble_eq_true rfl⟩ (fun v hv => ?_)
            obtain rfl := hv
            refine W.eq (g2 := F0 m 89 ls [.int (if 0 < fb_ct (zhas fo f zP3) n then (1 : Int32) else 0)]) rfl ?_
            refine lv_if_ne (tgt := 96) hx hb dX3_missing_89 (by decide) (fun c89 => ?_) (fun c89 => ?_)
            · have h89 := zif_a c89
              refine lv_iload_n hx hb dX3_missing_96 rfl (lv_at hl 1 rfl) ?_
              exact ret _ _ _ _ _ _ (by exact ⟨by rw [zmiss_in hf, zmsf, if_pos ⟨h21, h31⟩, if_neg (fun q => hlw q.1), if_neg (fun q => q.2 h89)] <;> exact congrArg (fun z => some (Value.int z)) (by decide), _, 6, rfl, by omega, hN2⟩) hP hD hS dX3_missing_97
            · have h89 := zif_b c89
              refine lv_iload_n hx hb dX3_missing_92 rfl (lv_at hl 1 rfl) ?_
              refine lv_iconst (v := (4 : Int32)) hx hb dX3_missing_93 (by decide) ?_
              refine lv_ior hx hb dX3_missing_94 ?_
              refine lv_istore_n (lv' := [(3, .int (((0 : Int32) ||| (1 : Int32)) ||| (4 : Int32))), (4, .int (zlst N2 f 256)), (2, .ref (ad 4)), (0, .ref (ad 0)), (1, .int (nI f))]) hx hb dX3_missing_95 rfl hl (by decide) rfl (fun ls hl => ?_)
              refine lv_iload_n hx hb dX3_missing_96 rfl (lv_at hl 0 rfl) ?_
              exact ret _ _ _ _ _ _ (by exact ⟨by rw [zmiss_in hf, zmsf, if_pos ⟨h21, h31⟩, if_neg (fun q => hlw q.1), if_pos ⟨h78, h89⟩] <;> exact congrArg (fun z => some (Value.int z)) (by decide), _, 6, rfl, by omega, hN2⟩) hP hD hS dX3_missing_97
        · refine lv_iload hx hb dX3_missing_52 (lv_at hl 0 rfl) ?_
          refine lv_if_ge (tgt := 70) hx hb dX3_missing_54 (by decide) (fun c54 => ?_) (fun c54 => ?_)
          · have hlw : ¬ 0 < fb_ct (zlow Gt f) 256 := by rw [← zlow_cong (zblk eN hf), zlow_iff]; exact fun q => absurd q.2 (Int32.not_lt.mpr c54)
            refine lv_aload_n hx hb dX3_missing_70 rfl (lv_at hl 3 rfl) ?_
            refine zq_get hx hb hts in_X3_missing_X3 hown hK hP 0 rfl rfl 0 (by decide) (hts _ w_X3_missing__fieldLink_RX3_12_WordsBeside_code_LWordsBeside_Code__2ab9f4) rfl dX3_missing_71 ?_
            refine lv_iload_n hx hb dX3_missing_74 rfl (lv_at hl 4 rfl) ?_
            refine zq_cV (rest := []) ⟨hx, hb, hml, hown, hts⟩ (zq_ro_mono (c_X1_length l D cI cZ cW cC (ad 1) (ad 2) (ad 3) st ln f hf) (fun v h => h.trans (congrArg (fun z => some (Value.int z)) (HL f hf).1))) (cwV 1 hts gX3_missing_X1_length rfl rfl rfl (by decide +kernel) ⟨Nat.le_of_ble_eq_true rfl, Nat.le_of_ble_eq_true rfl⟩) hK (zP_3 (hP 1 _ rfl) (hP 2 _ rfl) (hP 3 _ rfl)) 1 0 rfl rfl rfl hl.1 rfl (Nat.le_of_ble_eq_true rfl) dX3_missing_75 ⟨Nat.le_of_ble_eq_true rfl, Nat.le_of_ble_eq_true rfl⟩ (fun v hv => ?_)
            obtain rfl := hv
            refine W.eq (g2 := F0 m 78 ls [.int (nI (L f))]) rfl ?_
            refine lv_if_le (tgt := 96) hx hb dX3_missing_78 (by decide) (fun c78 => ?_) (fun c78 => ?_)
            · have h78 : ¬ 0 < L f := by have := (HL f hf).2; have := zle (show nI (L f) ≤ nI 0 from c78); omega
              refine lv_iload_n hx hb dX3_missing_96 rfl (lv_at hl 1 rfl) ?_
              exact ret _ _ _ _ _ _ (by exact ⟨by rw [zmiss_in hf, zmsf, if_pos ⟨h21, h31⟩, if_neg (fun q => hlw q.1), if_neg (fun q => h78 q.1)] <;> exact congrArg (fun z => some (Value.int z)) (by decide), _, 6, rfl, by omega, hN2⟩) hP hD hS dX3_missing_97
            · have h78 : 0 < L f := by have := (HL f hf).2; exact znle (show ¬ nI (L f) ≤ nI 0 from c78)
              refine lv_aload_n hx hb dX3_missing_81 rfl (lv_at hl 3 rfl) ?_
              refine lv_iload_n hx hb dX3_missing_82 rfl (lv_at hl 4 rfl) ?_
              refine lv_sipush (v := (nI 255)) hx hb dX3_missing_83 (by decide) ?_
              refine zq_cV (rest := []) ⟨hx, hb, hml, hown, hts⟩ (c_X3_hasClaim l D cI cZ cW cC ad st ln N2 fs fc hm (nI 6) kp cm PL pf n hn en co fo bo kF fF sF lh mF HC hfo f hf (nI 255) zP3 (fun i hi => by rw [zb255 (hk8 i hi)]; simp [zP3])) (cwV 2 hts gX3_missing_X3_hasClaim rfl rfl rfl (by decide +kernel) ⟨Nat.le_of_ble_eq_true rfl, Nat.le_of_ble_eq_true rfl⟩) hK hP 3 0 rfl rfl rfl hl.1 rfl (Nat.le_of_ble_eq_true rfl) dX3_missing_86 ⟨Nat.le_of_ble_eq_true rfl, Nat.le_of_ble_eq_true rfl⟩ (fun v hv => ?_)
              obtain rfl := hv
              refine W.eq (g2 := F0 m 89 ls [.int (if 0 < fb_ct (zhas fo f zP3) n then (1 : Int32) else 0)]) rfl ?_
              refine lv_if_ne (tgt := 96) hx hb dX3_missing_89 (by decide) (fun c89 => ?_) (fun c89 => ?_)
              · have h89 := zif_a c89
                refine lv_iload_n hx hb dX3_missing_96 rfl (lv_at hl 1 rfl) ?_
                exact ret _ _ _ _ _ _ (by exact ⟨by rw [zmiss_in hf, zmsf, if_pos ⟨h21, h31⟩, if_neg (fun q => hlw q.1), if_neg (fun q => q.2 h89)] <;> exact congrArg (fun z => some (Value.int z)) (by decide), _, 6, rfl, by omega, hN2⟩) hP hD hS dX3_missing_97
              · have h89 := zif_b c89
                refine lv_iload_n hx hb dX3_missing_92 rfl (lv_at hl 1 rfl) ?_
                refine lv_iconst (v := (4 : Int32)) hx hb dX3_missing_93 (by decide) ?_
                refine lv_ior hx hb dX3_missing_94 ?_
                refine lv_istore_n (lv' := [(3, .int (((0 : Int32) ||| (1 : Int32)) ||| (4 : Int32))), (4, .int (zlst N2 f 256)), (2, .ref (ad 4)), (0, .ref (ad 0)), (1, .int (nI f))]) hx hb dX3_missing_95 rfl hl (by decide) rfl (fun ls hl => ?_)
                refine lv_iload_n hx hb dX3_missing_96 rfl (lv_at hl 0 rfl) ?_
                exact ret _ _ _ _ _ _ (by exact ⟨by rw [zmiss_in hf, zmsf, if_pos ⟨h21, h31⟩, if_neg (fun q => hlw q.1), if_pos ⟨h78, h89⟩] <;> exact congrArg (fun z => some (Value.int z)) (by decide), _, 6, rfl, by omega, hN2⟩) hP hD hS dX3_missing_97
          · have hlw : 0 < fb_ct (zlow Gt f) 256 := by rw [← zlow_cong (zblk eN hf), zlow_iff]; exact ⟨c49, Int32.not_le.mp c54⟩
            refine lv_aload_n hx hb dX3_missing_57 rfl (lv_at hl 3 rfl) ?_
            refine lv_iload_n hx hb dX3_missing_58 rfl (lv_at hl 4 rfl) ?_
            refine lv_iconst (v := (1 : Int32)) hx hb dX3_missing_59 (by decide) ?_
            refine zq_cV (rest := []) ⟨hx, hb, hml, hown, hts⟩ (c_X3_hasClaim l D cI cZ cW cC ad st ln N2 fs fc hm (nI 6) kp cm PL pf n hn en co fo bo kF fF sF lh mF HC hfo f hf (1 : Int32) (zP2 kF) (fun i hi => by rw [zb1 (hk8 i hi)]; simp [zP2])) (cwV 2 hts gX3_missing_X3_hasClaim rfl rfl rfl (by decide +kernel) ⟨Nat.le_of_ble_eq_true rfl, Nat.le_of_ble_eq_true rfl⟩) hK hP 3 0 rfl rfl rfl hl.1 rfl (Nat.le_of_ble_eq_true rfl) dX3_missing_60 ⟨Nat.le_of_ble_eq_true rfl, Nat.le_of_ble_eq_true rfl⟩ (fun v hv => ?_)
            obtain rfl := hv
            refine W.eq (g2 := F0 m 63 ls [.int (if 0 < fb_ct (zhas fo f (zP2 kF)) n then (1 : Int32) else 0)]) rfl ?_
            refine lv_if_ne (tgt := 70) hx hb dX3_missing_63 (by decide) (fun c63 => ?_) (fun c63 => ?_)
            · have h63 := zif_a c63
              refine lv_aload_n hx hb dX3_missing_70 rfl (lv_at hl 3 rfl) ?_
              refine zq_get hx hb hts in_X3_missing_X3 hown hK hP 0 rfl rfl 0 (by decide) (hts _ w_X3_missing__fieldLink_RX3_12_WordsBeside_code_LWordsBeside_Code__2ab9f4) rfl dX3_missing_71 ?_
              refine lv_iload_n hx hb dX3_missing_74 rfl (lv_at hl 4 rfl) ?_
              refine zq_cV (rest := []) ⟨hx, hb, hml, hown, hts⟩ (zq_ro_mono (c_X1_length l D cI cZ cW cC (ad 1) (ad 2) (ad 3) st ln f hf) (fun v h => h.trans (congrArg (fun z => some (Value.int z)) (HL f hf).1))) (cwV 1 hts gX3_missing_X1_length rfl rfl rfl (by decide +kernel) ⟨Nat.le_of_ble_eq_true rfl, Nat.le_of_ble_eq_true rfl⟩) hK (zP_3 (hP 1 _ rfl) (hP 2 _ rfl) (hP 3 _ rfl)) 1 0 rfl rfl rfl hl.1 rfl (Nat.le_of_ble_eq_true rfl) dX3_missing_75 ⟨Nat.le_of_ble_eq_true rfl, Nat.le_of_ble_eq_true rfl⟩ (fun v hv => ?_)
              obtain rfl := hv
              refine W.eq (g2 := F0 m 78 ls [.int (nI (L f))]) rfl ?_
              refine lv_if_le (tgt := 96) hx hb dX3_missing_78 (by decide) (fun c78 => ?_) (fun c78 => ?_)
              · have h78 : ¬ 0 < L f := by have := (HL f hf).2; have := zle (show nI (L f) ≤ nI 0 from c78); omega
                refine lv_iload_n hx hb dX3_missing_96 rfl (lv_at hl 1 rfl) ?_
                exact ret _ _ _ _ _ _ (by exact ⟨by rw [zmiss_in hf, zmsf, if_pos ⟨h21, h31⟩, if_neg (fun q => q.2 h63), if_neg (fun q => h78 q.1)] <;> exact congrArg (fun z => some (Value.int z)) (by decide), _, 6, rfl, by omega, hN2⟩) hP hD hS dX3_missing_97
              · have h78 : 0 < L f := by have := (HL f hf).2; exact znle (show ¬ nI (L f) ≤ nI 0 from c78)
                refine lv_aload_n hx hb dX3_missing_81 rfl (lv_at hl 3 rfl) ?_
                refine lv_iload_n hx hb dX3_missing_82 rfl (lv_at hl 4 rfl) ?_
                refine lv_sipush (v := (nI 255)) hx hb dX3_missing_83 (by decide) ?_
                refine zq_cV (rest := []) ⟨hx, hb, hml, hown, hts⟩ (c_X3_hasClaim l D cI cZ cW cC ad st ln N2 fs fc hm (nI 6) kp cm PL pf n hn en co fo bo kF fF sF lh mF HC hfo f hf (nI 255) zP3 (fun i hi => by rw [zb255 (hk8 i hi)]; simp [zP3])) (cwV 2 hts gX3_missing_X3_hasClaim rfl rfl rfl (by decide +kernel) ⟨Nat.le_of_ble_eq_true rfl, Nat.le_of_ble_eq_true rfl⟩) hK hP 3 0 rfl rfl rfl hl.1 rfl (Nat.le_of_ble_eq_true rfl) dX3_missing_86 ⟨Nat.le_of_ble_eq_true rfl, Nat.le_of_ble_eq_true rfl⟩ (fun v hv => ?_)
                obtain rfl := hv
                refine W.eq (g2 := F0 m 89 ls [.int (if 0 < fb_ct (zhas fo f zP3) n then (1 : Int32) else 0)]) rfl ?_
                refine lv_if_ne (tgt := 96) hx hb dX3_missing_89 (by decide) (fun c89 => ?_) (fun c89 => ?_)
                · have h89 := zif_a c89
                  refine lv_iload_n hx hb dX3_missing_96 rfl (lv_at hl 1 rfl) ?_
                  exact ret _ _ _ _ _ _ (by exact ⟨by rw [zmiss_in hf, zmsf, if_pos ⟨h21, h31⟩, if_neg (fun q => q.2 h63), if_neg (fun q => q.2 h89)] <;> exact congrArg (fun z => some (Value.int z)) (by decide), _, 6, rfl, by omega, hN2⟩) hP hD hS dX3_missing_97
                · have h89 := zif_b c89
                  refine lv_iload_n hx hb dX3_missing_92 rfl (lv_at hl 1 rfl) ?_
                  refine lv_iconst (v := (4 : Int32)) hx hb dX3_missing_93 (by decide) ?_
                  refine lv_ior hx hb dX3_missing_94 ?_
                  refine lv_istore_n (lv' := [(3, .int (((0 : Int32) ||| (1 : Int32)) ||| (4 : Int32))), (4, .int (zlst N2 f 256)), (2, .ref (ad 4)), (0, .ref (ad 0)), (1, .int (nI f))]) hx hb dX3_missing_95 rfl hl (by decide) rfl (fun ls hl => ?_)
                  refine lv_iload_n hx hb dX3_missing_96 rfl (lv_at hl 0 rfl) ?_
                  exact ret _ _ _ _ _ _ (by exact ⟨by rw [zmiss_in hf, zmsf, if_pos ⟨h21, h31⟩, if_neg (fun q => q.2 h63), if_pos ⟨h78, h89⟩] <;> exact congrArg (fun z => some (Value.int z)) (by decide), _, 6, rfl, by omega, hN2⟩) hP hD hS dX3_missing_97
            · have h63 := zif_b c63
              refine lv_iload_n hx hb dX3_missing_66 rfl (lv_at hl 1 rfl) ?_
              refine lv_iconst (v := (2 : Int32)) hx hb dX3_missing_67 (by decide) ?_
              refine lv_ior hx hb dX3_missing_68 ?_
              refine lv_istore_n (lv' := [(3, .int (((0 : Int32) ||| (1 : Int32)) ||| (2 : Int32))), (4, .int (zlst N2 f 256)), (2, .ref (ad 4)), (0, .ref (ad 0)), (1, .int (nI f))]) hx hb dX3_missing_69 rfl hl (by decide) rfl (fun ls hl => ?_)
              refine lv_aload_n hx hb dX3_missing_70 rfl (lv_at hl 3 rfl) ?_
              refine zq_get hx hb hts in_X3_missing_X3 hown hK hP 0 rfl rfl 0 (by decide) (hts _ w_X3_missing__fieldLink_RX3_12_WordsBeside_code_LWordsBeside_Code__2ab9f4) rfl dX3_missing_71 ?_
              refine lv_iload_n hx hb dX3_missing_74 rfl (lv_at hl 4 rfl) ?_
              refine zq_cV (rest := []) ⟨hx, hb, hml, hown, hts⟩ (zq_ro_mono (c_X1_length l D cI cZ cW cC (ad 1) (ad 2) (ad 3) st ln f hf) (fun v h => h.trans (congrArg (fun z => some (Value.int z)) (HL f hf).1))) (cwV 1 hts gX3_missing_X1_length rfl rfl rfl (by decide +kernel) ⟨Nat.le_of_ble_eq_true rfl, Nat.le_of_ble_eq_true rfl⟩) hK (zP_3 (hP 1 _ rfl) (hP 2 _ rfl) (hP 3 _ rfl)) 1 0 rfl rfl rfl hl.1 rfl (Nat.le_of_ble_eq_true rfl) dX3_missing_75 ⟨Nat.le_of_ble_eq_true rfl, Nat.le_of_ble_eq_true rfl⟩ (fun v hv => ?_)
              obtain rfl := hv
              refine W.eq (g2 := F0 m 78 ls [.int (nI (L f))]) rfl ?_
              refine lv_if_le (tgt := 96) hx hb dX3_missing_78 (by decide) (fun c78 => ?_) (fun c78 => ?_)
              · have h78 : ¬ 0 < L f := by have := (HL f hf).2; have := zle (show nI (L f) ≤ nI 0 from c78); omega
                refine lv_iload_n hx hb dX3_missing_96 rfl (lv_at hl 0 rfl) ?_
                exact ret _ _ _ _ _ _ (by exact ⟨by rw [zmiss_in hf, zmsf, if_pos ⟨h21, h31⟩, if_pos ⟨hlw, h63⟩, if_neg (fun q => h78 q.1)] <;> exact congrArg (fun z => some (Value.int z)) (by decide), _, 6, rfl, by omega, hN2⟩) hP hD hS dX3_missing_97
              · have h78 : 0 < L f := by have := (HL f hf).2; exact znle (show ¬ nI (L f) ≤ nI 0 from c78)
                refine lv_aload_n hx hb dX3_missing_81 rfl (lv_at hl 3 rfl) ?_
                refine lv_iload_n hx hb dX3_missing_82 rfl (lv_at hl 4 rfl) ?_
                refine lv_sipush (v := (nI 255)) hx hb dX3_missing_83 (by decide) ?_
                refine zq_cV (rest := []) ⟨hx, hb, hml, hown, hts⟩ (c_X3_hasClaim l D cI cZ cW cC ad st ln N2 fs fc hm (nI 6) kp cm PL pf n hn en co fo bo kF fF sF lh mF HC hfo f hf (nI 255) zP3 (fun i hi => by rw [zb255 (hk8 i hi)]; simp [zP3])) (cwV 2 hts gX3_missing_X3_hasClaim rfl rfl rfl (by decide +kernel) ⟨Nat.le_of_ble_eq_true rfl, Nat.le_of_ble_eq_true rfl⟩) hK hP 3 0 rfl rfl rfl hl.1 rfl (Nat.le_of_ble_eq_true rfl) dX3_missing_86 ⟨Nat.le_of_ble_eq_true rfl, Nat.le_of_ble_eq_true rfl⟩ (fun v hv => ?_)
                obtain rfl := hv
                refine W.eq (g2 := F0 m 89 ls [.int (if 0 < fb_ct (zhas fo f zP3) n then (1 : Int32) else 0)]) rfl ?_
                refine lv_if_ne (tgt := 96) hx hb dX3_missing_89 (by decide) (fun c89 => ?_) (fun c89 => ?_)
                · have h89 := zif_a c89
                  refine lv_iload_n hx hb dX3_missing_96 rfl (lv_at hl 0 rfl) ?_
                  exact ret _ _ _ _ _ _ (by exact ⟨by rw [zmiss_in hf, zmsf, if_pos ⟨h21, h31⟩, if_pos ⟨hlw, h63⟩, if_neg (fun q => q.2 h89)] <;> exact congrArg (fun z => some (Value.int z)) (by decide), _, 6, rfl, by omega, hN2⟩) hP hD hS dX3_missing_97
                · have h89 := zif_b c89
                  refine lv_iload_n hx hb dX3_missing_92 rfl (lv_at hl 0 rfl) ?_
                  refine lv_iconst (v := (4 : Int32)) hx hb dX3_missing_93 (by decide) ?_
                  refine lv_ior hx hb dX3_missing_94 ?_
                  refine lv_istore_n (lv' := [(3, .int ((((0 : Int32) ||| (1 : Int32)) ||| (2 : Int32)) ||| (4 : Int32))), (4, .int (zlst N2 f 256)), (2, .ref (ad 4)), (0, .ref (ad 0)), (1, .int (nI f))]) hx hb dX3_missing_95 rfl hl (by decide) rfl (fun ls hl => ?_)
                  refine lv_iload_n hx hb dX3_missing_96 rfl (lv_at hl 0 rfl) ?_
                  exact ret _ _ _ _ _ _ (by exact ⟨by rw [zmiss_in hf, zmsf, if_pos ⟨h21, h31⟩, if_pos ⟨hlw, h63⟩, if_pos ⟨h78, h89⟩] <;> exact congrArg (fun z => some (Value.int z)) (by decide), _, 6, rfl, by omega, hN2⟩) hP hD hS dX3_missing_97
  · refine W.eq (g2 := F0 m 4 ls [.int (0 : Int32)]) rfl ?_
    refine lv_if_ne (tgt := 9) hx hb dX3_missing_4 (by decide) (fun c4 => absurd c4 (by decide)) (fun c4 => ?_)
    refine lv_iconst (v := (-1 : Int32)) hx hb dX3_missing_7 (by decide) ?_
    exact ret _ _ _ _ _ _ (by exact ⟨by rw [zmiss_no hyf], _, sn, rfl, hsn, hOK⟩) hP hD hS dX3_missing_8
theorem w_X3_count__fieldLink_RX3_12_WordsBeside_code_LWordsBeside_Code__2ab9f4 : (.fieldLink RX3 12 "WordsBeside" "code" "LWordsBeside$Code;" : Cond) ∈ wsX3_count := by decide +kernel
theorem w_X3_count__fieldLink_RX3_31_WordsBeside_kept_I__a1b92e : (.fieldLink RX3 31 "WordsBeside" "kept" "I" : Cond) ∈ wsX3_count := by decide +kernel
theorem w_X3_count__fieldLink_RX3_40_WordsBeside_came_I__48f8c3 : (.fieldLink RX3 40 "WordsBeside" "came" "I" : Cond) ∈ wsX3_count := by decide +kernel
theorem in_X3_count_X3 : ∀ w ∈ wsX30, w ∈ wsX3_count := fun _ h => List.mem_cons_of_mem _ (List.mem_append_left _ (List.mem_append_left _ (List.mem_append_left _ (List.mem_append_right _ h))))
set_option maxHeartbeats 4000000 in
set_option maxRecDepth 100000 in
theorem c_X3_count (l : Launch) (D : va_G) (cI cZ cW cC : ClassId) (ad : Nat → Nat) (st ln N : Nat → Int32) (fs fc : Nat → Option Nat) (hm : Nat → Int32) (se kp cm : Int32) (PL : List Nat) (pf : Nat → va_E) (sn : Nat) (hsn : sn ≤ 6) (es : se = nI sn) (L : Nat → Nat) (HL : zHL ln L) (HV : ∀ f, f < 6 → zvs st f (L f)) (hOK : zOK st L N sn) (Gt : Nat → Int32) (hGt : zOK st L Gt 6) (k : Nat) (hk : k ≤ 30) (ek : kp = nI k) (n : Nat) (hn : n ≤ 40) (en : cm = nI n) (co fo bo : Nat → Nat) (kF fF sF lh mF : Nat → Int32) (HC : zPC PL pf fc co fo bo kF fF sF lh mF n) (hfo : ∀ i, i < n → fo i < 6) (wh : Int32) (sz : Nat) : zq_mu l D cI cZ cW cC yX3_count wsX3_count ({ frames := 6, cells := 0, slots := 0, locals := 144 } : Room) [.ref (ad 0), .int wh] ((cX cI cW cC ad st ln N fs fc hm se kp cm) ++ va_pl PL pf) sz (fun v w1 => v = some (.int (zcnt n k wh ln (fun f => nI (fb_ct (zref Gt f) 256)) (fun i => zstd (zheld (zdn Gt fo kF fF sF i)) (lh i)) mF)) ∧ ∃ (N3 : Nat → Int32) (sn3 : Nat), w1 = ((cX cI cW cC ad st ln N3 fs fc hm (nI sn3) kp cm) ++ va_pl PL pf) ∧ sn3 ≤ 6 ∧ zOK st L N3 sn3) 0 0 := by
  refine zq_muI (own := RX3) (by decide) rfl rfl (Nat.le_of_ble_eq_true rfl) ?_
  intro p e s m below meth c Q A ls hsz hF hin hA hP hK hD hS hl ret
  obtain ⟨hx, hb, hml, hown, hts⟩ := hF
  have hl : lv_has ls 2 [(0, .ref (ad 0)), (1, .int wh)] := hl
  subst es
  refine lv_iload_n hx hb dX3_count_0 rfl (lv_at hl 1 rfl) ?_
  refine lv_bipush (v := (nI 10)) hx hb dX3_count_1 (by decide) ?_
  refine lv_icmp_lt (tgt := 28) hx hb dX3_count_3 (by decide) (fun c3 => ?_) (fun c3 => ?_)
  · have hy1 := znoa (b := 10) (by omega) c3
    refine lv_iload_n hx hb dX3_count_28 rfl (lv_at hl 1 rfl) ?_
    refine lv_bipush (v := (nI 20)) hx hb dX3_count_29 (by decide) ?_
    refine lv_icmp_lt (tgt := 56) hx hb dX3_count_31 (by decide) (fun c31 => ?_) (fun c31 => ?_)
    · have hy2 := znoa (b := 20) (by omega) c31
      refine lv_iload_n hx hb dX3_count_56 rfl (lv_at hl 1 rfl) ?_
      by_cases k57_0 : wh = (0 : Int32)
      · refine lv_tableIn (tgt := 96) hx hb dX3_count_57 (by rw [k57_0]; decide) (by rw [k57_0]; decide) (by rw [k57_0]; rfl) (by decide) ?_
        refine lv_aload_n hx hb dX3_count_96 rfl (lv_at hl 0 rfl) ?_
        refine zq_get hx hb hts in_X3_count_X3 hown hK hP 0 rfl rfl 6 (by decide) (hts _ w_X3_count__fieldLink_RX3_40_WordsBeside_came_I__48f8c3) rfl dX3_count_97 ?_
        refine zq_te (y := (nI n)) en ?_
        exact ret _ _ _ _ _ _ (by exact ⟨by rw [zcnt_lo hy1 hy2]; simp [k57_0], _, sn, rfl, hsn, hOK⟩) hP hD hS dX3_count_100
      · by_cases k57_1 : wh = (1 : Int32)
        · refine lv_tableIn (tgt := 101) hx hb dX3_count_57 (by rw [k57_1]; decide) (by rw [k57_1]; decide) (by rw [k57_1]; rfl) (by decide) ?_
          refine lv_aload_n hx hb dX3_count_101 rfl (lv_at hl 0 rfl) ?_
          refine zq_get hx hb hts in_X3_count_X3 hown hK hP 0 rfl rfl 4 (by decide) (hts _ w_X3_count__fieldLink_RX3_31_WordsBeside_kept_I__a1b92e) rfl dX3_count_102 ?_
          refine zq_te (y := (nI k)) ek ?_
          exact ret _ _ _ _ _ _ (by exact ⟨by rw [zcnt_lo hy1 hy2]; simp [k57_1], _, sn, rfl, hsn, hOK⟩) hP hD hS dX3_count_105
        · by_cases k57_2 : wh = (2 : Int32)
          · refine lv_tableIn (tgt := 106) hx hb dX3_count_57 (by rw [k57_2]; decide) (by rw [k57_2]; decide) (by rw [k57_2]; rfl) (by decide) ?_
            refine lv_aload_n hx hb dX3_count_106 rfl (lv_at hl 0 rfl) ?_
            refine lv_iconst (v := (0 : Int32)) hx hb dX3_count_107 (by decide) ?_
            refine zq_cM (rest := []) ⟨hx, hb, hml, hown, hts⟩ (c_X3_howManyStand l D cI cZ cW cC ad st ln N fs fc hm (nI sn) kp cm PL pf sn hsn rfl L HL HV hOK Gt hGt n hn en co fo bo kF fF sF lh mF HC hfo 0 _) (cwV 1 hts gX3_count_X3_howManyStand rfl rfl rfl (by decide +kernel) ⟨Nat.le_of_ble_eq_true rfl, Nat.le_of_ble_eq_true rfl⟩) hK hP hD hS hA 3 0 rfl rfl rfl hl.1 rfl (Nat.le_of_ble_eq_true rfl) dX3_count_108 ⟨Nat.le_of_ble_eq_true rfl, Nat.le_of_ble_eq_true rfl⟩ (fun v w1 H locs hv hP hD hS => ?_)
            obtain ⟨rfl, N3, sn3, rfl, hs3, hO3⟩ := hv
            have hP : va_P D vwCl ((cX cI cW cC ad st ln N3 fs fc hm (nI sn3) kp cm) ++ va_pl PL pf) H := hP
            have hD : va_D A ((cX cI cW cC ad st ln N3 fs fc hm (nI sn3) kp cm) ++ va_pl PL pf) := hD
            refine W.eq (g2 := F0 m 111 ls [.int (nI (fb_ct (fun i => decide ((zstd (zheld (zdn Gt fo kF fF sF i)) (lh i)) = 0)) n))]) rfl ?_
            exact ret _ _ _ _ _ _ (by exact ⟨by rw [zcnt_lo hy1 hy2]; simp [k57_2], _, sn3, rfl, hs3, hO3⟩) hP hD hS dX3_count_111
          · by_cases k57_3 : wh = (3 : Int32)
            · refine lv_tableIn (tgt := 112) hx hb dX3_count_57 (by rw [k57_3]; decide) (by rw [k57_3]; decide) (by rw [k57_3]; rfl) (by decide) ?_
              refine lv_aload_n hx hb dX3_count_112 rfl (lv_at hl 0 rfl) ?_
              refine lv_iconst (v := (1 : Int32)) hx hb dX3_count_113 (by decide) ?_
              refine zq_cM (rest := []) ⟨hx, hb, hml, hown, hts⟩ (c_X3_howManyStand l D cI cZ cW cC ad st ln N fs fc hm (nI sn) kp cm PL pf sn hsn rfl L HL HV hOK Gt hGt n hn en co fo bo kF fF sF lh mF HC hfo 1 _) (cwV 1 hts gX3_count_X3_howManyStand rfl rfl rfl (by decide +kernel) ⟨Nat.le_of_ble_eq_true rfl, Nat.le_of_ble_eq_true rfl⟩) hK hP hD hS hA 3 0 rfl rfl rfl hl.1 rfl (Nat.le_of_ble_eq_true rfl) dX3_count_114 ⟨Nat.le_of_ble_eq_true rfl, Nat.le_of_ble_eq_true rfl⟩ (fun v w1 H locs hv hP hD hS => ?_)
              obtain ⟨rfl, N3, sn3, rfl, hs3, hO3⟩ := hv
              have hP : va_P D vwCl ((cX cI cW cC ad st ln N3 fs fc hm (nI sn3) kp cm) ++ va_pl PL pf) H := hP
              have hD : va_D A ((cX cI cW cC ad st ln N3 fs fc hm (nI sn3) kp cm) ++ va_pl PL pf) := hD
              refine W.eq (g2 := F0 m 117 ls [.int (nI (fb_ct (fun i => decide ((zstd (zheld (zdn Gt fo kF fF sF i)) (lh i)) = 1)) n))]) rfl ?_
              exact ret _ _ _ _ _ _ (by exact ⟨by rw [zcnt_lo hy1 hy2]; simp [k57_3], _, sn3, rfl, hs3, hO3⟩) hP hD hS dX3_count_117
            · by_cases k57_4 : wh = (4 : Int32)
              · refine lv_tableIn (tgt := 118) hx hb dX3_count_57 (by rw [k57_4]; decide) (by rw [k57_4]; decide) (by rw [k57_4]; rfl) (by decide) ?_
                refine lv_aload_n hx hb dX3_count_118 rfl (lv_at hl 0 rfl) ?_
                refine lv_iconst (v := (2 : Int32)) hx hb dX3_count_119 (by decide) ?_
                refine zq_cM (rest := []) ⟨hx, hb, hml, hown, hts⟩ (c_X3_howManyStand l D cI cZ cW cC ad st ln N fs fc hm (nI sn) kp cm PL pf sn hsn rfl L HL HV hOK Gt hGt n hn en co fo bo kF fF sF lh mF HC hfo 2 _) (cwV 1 hts gX3_count_X3_howManyStand rfl rfl rfl (by decide +kernel) ⟨Nat.le_of_ble_eq_true rfl, Nat.le_of_ble_eq_true rfl⟩) hK hP hD hS hA 3 0 rfl rfl rfl hl.1 rfl (Nat.le_of_ble_eq_true rfl) dX3_count_120 ⟨Nat.le_of_ble_eq_true rfl, Nat.le_of_ble_eq_true rfl⟩ (fun v w1 H locs hv hP hD hS => ?_)
                obtain ⟨rfl, N3, sn3, rfl, hs3, hO3⟩ := hv
                have hP : va_P D vwCl ((cX cI cW cC ad st ln N3 fs fc hm (nI sn3) kp cm) ++ va_pl PL pf) H := hP
                have hD : va_D A ((cX cI cW cC ad st ln N3 fs fc hm (nI sn3) kp cm) ++ va_pl PL pf) := hD
                refine W.eq (g2 := F0 m 123 ls [.int (nI (fb_ct (fun i => decide ((zstd (zheld (zdn Gt fo kF fF sF i)) (lh i)) = 2)) n))]) rfl ?_
                exact ret _ _ _ _ _ _ (by exact ⟨by rw [zcnt_lo hy1 hy2]; simp [k57_4], _, sn3, rfl, hs3, hO3⟩) hP hD hS dX3_count_123
              · by_cases k57_5 : wh = (5 : Int32)
                · refine lv_tableIn (tgt := 124) hx hb dX3_count_57 (by rw [k57_5]; decide) (by rw [k57_5]; decide) (by rw [k57_5]; rfl) (by decide) ?_
                  refine lv_aload_n hx hb dX3_count_124 rfl (lv_at hl 0 rfl) ?_
                  refine zq_cV (rest := []) ⟨hx, hb, hml, hown, hts⟩ (c_X3_howManyMarked l D cI cZ cW cC ad st ln N fs fc hm (nI sn) kp cm PL pf n hn en co fo bo kF fF sF lh mF HC) (cwV 0 hts gX3_count_X3_howManyMarked rfl rfl rfl (by decide +kernel) ⟨Nat.le_of_ble_eq_true rfl, Nat.le_of_ble_eq_true rfl⟩) hK hP 3 0 rfl rfl rfl hl.1 rfl (Nat.le_of_ble_eq_true rfl) dX3_count_125 ⟨Nat.le_of_ble_eq_true rfl, Nat.le_of_ble_eq_true rfl⟩ (fun v hv => ?_)
                  obtain rfl := hv
                  refine W.eq (g2 := F0 m 128 ls [.int (nI (fb_ct (fun i => decide (¬ mF i = 0)) n))]) rfl ?_
                  exact ret _ _ _ _ _ _ (by exact ⟨by rw [zcnt_lo hy1 hy2]; simp [k57_5], _, sn, rfl, hsn, hOK⟩) hP hD hS dX3_count_128
                · refine lv_tableOut (tgt := 129) hx hb dX3_count_57 (by have k57_0T := lv_neT k57_0 (a := 0) rfl; have k57_1T := lv_neT k57_1 (a := 1) rfl; have k57_2T := lv_neT k57_2 (a := 2) rfl; have k57_3T := lv_neT k57_3 (a := 3) rfl; have k57_4T := lv_neT k57_4 (a := 4) rfl; have k57_5T := lv_neT k57_5 (a := 5) rfl; omega) (by decide) ?_
                  refine lv_iconst (v := (-1 : Int32)) hx hb dX3_count_129 (by decide) ?_
                  exact ret _ _ _ _ _ _ (by exact ⟨by rw [zcnt_lo hy1 hy2]; simp [k57_0, k57_1, k57_2, k57_3, k57_4, k57_5], _, sn, rfl, hsn, hOK⟩) hP hD hS dX3_count_130
    · refine lv_iload_n hx hb dX3_count_34 rfl (lv_at hl 1 rfl) ?_
      refine lv_bipush (v := (nI 20)) hx hb dX3_count_35 (by decide) ?_
      refine lv_isub hx hb dX3_count_37 ?_
      refine zq_cS (rest := []) ⟨hx, hb, hml, hown, hts⟩ (c_X3_isFunction l D cI cZ cW cC (wh - (nI 20))) (va_cwS 1 hts gX3_count_X3_isFunction rfl rfl rfl (by decide +kernel) ⟨Nat.le_of_ble_eq_true rfl, Nat.le_of_ble_eq_true rfl⟩) hK (fun k q h => by simp at h) rfl hl.1 rfl (Nat.le_of_ble_eq_true rfl) dX3_count_38 ⟨Nat.le_of_ble_eq_true rfl, Nat.le_of_ble_eq_true rfl⟩ (fun v hv => ?_)
      rcases hv with ⟨rfl, j, hj, e10⟩ | ⟨rfl, hyB⟩
      · refine W.eq (g2 := F0 m 41 ls [.int (1 : Int32)]) rfl ?_
        have e11 := zsubI e10
        subst e11
        refine lv_if_eq (tgt := 56) hx hb dX3_count_41 (by decide) (fun c41 => absurd c41 (by decide)) (fun c41 => ?_)
        refine lv_aload_n hx hb dX3_count_44 rfl (lv_at hl 0 rfl) ?_
        refine zq_cM (rest := []) ⟨hx, hb, hml, hown, hts⟩ (c_X3_present l D cI cZ cW cC ad st ln N fs fc hm (nI sn) kp cm PL pf L HL HV sn hsn rfl hOK _) (cwV 0 hts gX3_count_X3_present rfl rfl rfl (by decide +kernel) ⟨Nat.le_of_ble_eq_true rfl, Nat.le_of_ble_eq_true rfl⟩) hK hP hD hS hA 3 0 rfl rfl rfl hl.1 rfl (Nat.le_of_ble_eq_true rfl) dX3_count_45 ⟨Nat.le_of_ble_eq_true rfl, Nat.le_of_ble_eq_true rfl⟩ (fun v w1 H locs hv hP hD hS => ?_)
        obtain ⟨rfl, N2, rfl, hN2⟩ := hv
        have hP : va_P D vwCl ((cX cI cW cC ad st ln N2 fs fc hm (nI 6) kp cm) ++ va_pl PL pf) H := hP
        have hD : va_D A ((cX cI cW cC ad st ln N2 fs fc hm (nI 6) kp cm) ++ va_pl PL pf) := hD
        refine W.eq (g2 := F0 m 48 ls [.ref (ad 4)]) rfl ?_
        have eN : ∀ j, j < 1536 → N2 j = Gt j := zOK_one (by omega) hN2 hGt HV
        refine lv_iload_n hx hb dX3_count_48 rfl (lv_at hl 1 rfl) ?_
        refine lv_bipush (v := (nI 20)) hx hb dX3_count_49 (by decide) ?_
        refine lv_isub hx hb dX3_count_51 ?_
        refine zq_te (y := (nI j)) (by rw [pk_sub (by omega), show 20 + j - 20 = j by omega]) ?_
        refine zq_cV (rest := []) ⟨hx, hb, hml, hown, hts⟩ (c_X2_refusals l D cI cZ cW cC (ad 4) (ad 5) N2 j hj) (cwV 1 hts gX3_count_X2_refusals rfl rfl rfl (by decide +kernel) ⟨Nat.le_of_ble_eq_true rfl, Nat.le_of_ble_eq_true rfl⟩) hK (zP_2 (hP 4 _ rfl) (hP 5 _ rfl)) 2 0 rfl rfl rfl hl.1 rfl (Nat.le_of_ble_eq_true rfl) dX3_count_52 ⟨Nat.le_of_ble_eq_true rfl, Nat.le_of_ble_eq_true rfl⟩ (fun v hv => ?_)
        obtain rfl := hv
        refine W.eq (g2 := F0 m 55 ls [.int (nI (fb_ct (zref N2 j) 256))]) rfl ?_
        exact ret _ _ _ _ _ _ (by exact ⟨by rw [zcnt_20 hj, fb_ct_cong (zref_cong (zblk eN hj))], _, 6, rfl, by omega, hN2⟩) hP hD hS dX3_count_55
      · refine W.eq (g2 := F0 m 41 ls [.int (0 : Int32)]) rfl ?_
        refine lv_if_eq (tgt := 56) hx hb dX3_count_41 (by decide) (fun c41 => ?_) (fun c41 => absurd c41 (by decide))
        have hy2 := znob (b := 20) (by omega) hyB
        refine lv_iload_n hx hb dX3_count_56 rfl (lv_at hl 1 rfl) ?_
        by_cases k57_0 : wh = (0 : Int32)
        · refine lv_tableIn (tgt := 96) hx hb dX3_count_57 (by rw [k57_0]; decide) (by rw [k57_0]; decide) (by rw [k57_0]; rfl) (by decide) ?_
          refine lv_aload_n hx hb dX3_count_96 rfl (lv_at hl 0 rfl) ?_
          refine zq_get hx hb hts in_X3_count_X3 hown hK hP 0 rfl rfl 6 (by decide) (hts _ w_X3_count__fieldLink_RX3_40_WordsBeside_came_I__48f8c3) rfl dX3_count_97 ?_
          refine zq_te (y := (nI n)) en ?_
          exact ret _ _ _ _ _ _ (by exact ⟨by rw [zcnt_lo hy1 hy2]; simp [k57_0], _, sn, rfl, hsn, hOK⟩) hP hD hS dX3_count_100
        · by_cases k57_1 : wh = (1 : Int32)
          · refine lv_tableIn (tgt := 101) hx hb dX3_count_57 (by rw [k57_1]; decide) (by rw [k57_1]; decide) (by rw [k57_1]; rfl) (by decide) ?_
            refine lv_aload_n hx hb dX3_count_101 rfl (lv_at hl 0 rfl) ?_
            refine zq_get hx hb hts in_X3_count_X3 hown hK hP 0 rfl rfl 4 (by decide) (hts _ w_X3_count__fieldLink_RX3_31_WordsBeside_kept_I__a1b92e) rfl dX3_count_102 ?_
            refine zq_te (y := (nI k)) ek ?_
            exact ret _ _ _ _ _ _ (by exact ⟨by rw [zcnt_lo hy1 hy2]; simp [k57_1], _, sn, rfl, hsn, hOK⟩) hP hD hS dX3_count_105
          · by_cases k57_2 : wh = (2 : Int32)
            · refine lv_tableIn (tgt := 106) hx hb dX3_count_57 (by rw [k57_2]; decide) (by rw [k57_2]; decide) (by rw [k57_2]; rfl) (by decide) ?_
              refine lv_aload_n hx hb dX3_count_106 rfl (lv_at hl 0 rfl) ?_
              refine lv_iconst (v := (0 : Int32)) hx hb dX3_count_107 (by decide) ?_
              refine zq_cM (rest := []) ⟨hx, hb, hml, hown, hts⟩ (c_X3_howManyStand l D cI cZ cW cC ad st ln N fs fc hm (nI sn) kp cm PL pf sn hsn rfl L HL HV hOK Gt hGt n hn en co fo bo kF fF sF lh mF HC hfo 0 _) (cwV 1 hts gX3_count_X3_howManyStand rfl rfl rfl (by decide +kernel) ⟨Nat.le_of_ble_eq_true rfl, Nat.le_of_ble_eq_true rfl⟩) hK hP hD hS hA 3 0 rfl rfl rfl hl.1 rfl (Nat.le_of_ble_eq_true rfl) dX3_count_108 ⟨Nat.le_of_ble_eq_true rfl, Nat.le_of_ble_eq_true rfl⟩ (fun v w1 H locs hv hP hD hS => ?_)
              obtain ⟨rfl, N3, sn3, rfl, hs3, hO3⟩ := hv
              have hP : va_P D vwCl ((cX cI cW cC ad st ln N3 fs fc hm (nI sn3) kp cm) ++ va_pl PL pf) H := hP
              have hD : va_D A ((cX cI cW cC ad st ln N3 fs fc hm (nI sn3) kp cm) ++ va_pl PL pf) := hD
              refine W.eq (g2 := F0 m 111 ls [.int (nI (fb_ct (fun i => decide ((zstd (zheld (zdn Gt fo kF fF sF i)) (lh i)) = 0)) n))]) rfl ?_
              exact ret _ _ _ _ _ _ (by exact ⟨by rw [zcnt_lo hy1 hy2]; simp [k57_2], _, sn3, rfl, hs3, hO3⟩) hP hD hS dX3_count_111
            · by_cases k57_3 : wh = (3 : Int32)
              · refine lv_tableIn (tgt := 112) hx hb dX3_count_57 (by rw [k57_3]; decide) (by rw [k57_3]; decide) (by rw [k57_3]; rfl) (by decide) ?_
                refine lv_aload_n hx hb dX3_count_112 rfl (lv_at hl 0 rfl) ?_
                refine lv_iconst (v := (1 : Int32)) hx hb dX3_count_113 (by decide) ?_
                refine zq_cM (rest := []) ⟨hx, hb, hml, hown, hts⟩ (c_X3_howManyStand l D cI cZ cW cC ad st ln N fs fc hm (nI sn) kp cm PL pf sn hsn rfl L HL HV hOK Gt hGt n hn en co fo bo kF fF sF lh mF HC hfo 1 _) (cwV 1 hts gX3_count_X3_howManyStand rfl rfl rfl (by decide +kernel) ⟨Nat.le_of_ble_eq_true rfl, Nat.le_of_ble_eq_true rfl⟩) hK hP hD hS hA 3 0 rfl rfl rfl hl.1 rfl (Nat.le_of_ble_eq_true rfl) dX3_count_114 ⟨Nat.le_of_ble_eq_true rfl, Nat.le_of_ble_eq_true rfl⟩ (fun v w1 H locs hv hP hD hS => ?_)
                obtain ⟨rfl, N3, sn3, rfl, hs3, hO3⟩ := hv
                have hP : va_P D vwCl ((cX cI cW cC ad st ln N3 fs fc hm (nI sn3) kp cm) ++ va_pl PL pf) H := hP
                have hD : va_D A ((cX cI cW cC ad st ln N3 fs fc hm (nI sn3) kp cm) ++ va_pl PL pf) := hD
                refine W.eq (g2 := F0 m 117 ls [.int (nI (fb_ct (fun i => decide ((zstd (zheld (zdn Gt fo kF fF sF i)) (lh i)) = 1)) n))]) rfl ?_
                exact ret _ _ _ _ _ _ (by exact ⟨by rw [zcnt_lo hy1 hy2]; simp [k57_3], _, sn3, rfl, hs3, hO3⟩) hP hD hS dX3_count_117
              · by_cases k57_4 : wh = (4 : Int32)
                · refine lv_tableIn (tgt := 118) hx hb dX3_count_57 (by rw [k57_4]; decide) (by rw [k57_4]; decide) (by rw [k57_4]; rfl) (by decide) ?_
                  refine lv_aload_n hx hb dX3_count_118 rfl (lv_at hl 0 rfl) ?_
                  refine lv_iconst (v := (2 : Int32)) hx hb dX3_count_119 (by decide) ?_
                  refine zq_cM (rest := []) ⟨hx, hb, hml, hown, hts⟩ (c_X3_howManyStand l D cI cZ cW cC ad st ln N fs fc hm (nI sn) kp cm PL pf sn hsn rfl L HL HV hOK Gt hGt n hn en co fo bo kF fF sF lh mF HC hfo 2 _) (cwV 1 hts gX3_count_X3_howManyStand rfl rfl rfl (by decide +kernel) ⟨Nat.le_of_ble_eq_true rfl, Nat.le_of_ble_eq_true rfl⟩) hK hP hD hS hA 3 0 rfl rfl rfl hl.1 rfl (Nat.le_of_ble_eq_true rfl) dX3_count_120 ⟨Nat.le_of_ble_eq_true rfl, Nat.le_of_ble_eq_true rfl⟩ (fun v w1 H locs hv hP hD hS => ?_)
                  obtain ⟨rfl, N3, sn3, rfl, hs3, hO3⟩ := hv
                  have hP : va_P D vwCl ((cX cI cW cC ad st ln N3 fs fc hm (nI sn3) kp cm) ++ va_pl PL pf) H := hP
                  have hD : va_D A ((cX cI cW cC ad st ln N3 fs fc hm (nI sn3) kp cm) ++ va_pl PL pf) := hD
                  refine W.eq (g2 := F0 m 123 ls [.int (nI (fb_ct (fun i => decide ((zstd (zheld (zdn Gt fo kF fF sF i)) (lh i)) = 2)) n))]) rfl ?_
                  exact ret _ _ _ _ _ _ (by exact ⟨by rw [zcnt_lo hy1 hy2]; simp [k57_4], _, sn3, rfl, hs3, hO3⟩) hP hD hS dX3_count_123
                · by_cases k57_5 : wh = (5 : Int32)
                  · refine lv_tableIn (tgt := 124) hx hb dX3_count_57 (by rw [k57_5]; decide) (by rw [k57_5]; decide) (by rw [k57_5]; rfl) (by decide) ?_
                    refine lv_aload_n hx hb dX3_count_124 rfl (lv_at hl 0 rfl) ?_
                    refine zq_cV (rest := []) ⟨hx, hb, hml, hown, hts⟩ (c_X3_howManyMarked l D cI cZ cW cC ad st ln N fs fc hm (nI sn) kp cm PL pf n hn en co fo bo kF fF sF lh mF HC) (cwV 0 hts gX3_count_X3_howManyMarked rfl rfl rfl (by decide +kernel) ⟨Nat.le_of_ble_eq_true rfl, Nat.le_of_ble_eq_true rfl⟩) hK hP 3 0 rfl rfl rfl hl.1 rfl (Nat.le_of_ble_eq_true rfl) dX3_count_125 ⟨Nat.le_of_ble_eq_true rfl, Nat.le_of_ble_eq_true rfl⟩ (fun v hv => ?_)
                    obtain rfl := hv
                    refine W.eq (g2 := F0 m 128 ls [.int (nI (fb_ct (fun i => decide (¬ mF i = 0)) n))]) rfl ?_
                    exact ret _ _ _ _ _ _ (by exact ⟨by rw [zcnt_lo hy1 hy2]; simp [k57_5], _, sn, rfl, hsn, hOK⟩) hP hD hS dX3_count_128
                  · refine lv_tableOut (tgt := 129) hx hb dX3_count_57 (by have k57_0T := lv_neT k57_0 (a := 0) rfl; have k57_1T := lv_neT k57_1 (a := 1) rfl; have k57_2T := lv_neT k57_2 (a := 2) rfl; have k57_3T := lv_neT k57_3 (a := 3) rfl; have k57_4T := lv_neT k57_4 (a := 4) rfl; have k57_5T := lv_neT k57_5 (a := 5) rfl; omega) (by decide) ?_
                    refine lv_iconst (v := (-1 : Int32)) hx hb dX3_count_129 (by decide) ?_
                    exact ret _ _ _ _ _ _ (by exact ⟨by rw [zcnt_lo hy1 hy2]; simp [k57_0, k57_1, k57_2, k57_3, k57_4, k57_5], _, sn, rfl, hsn, hOK⟩) hP hD hS dX3_count_130
  · refine lv_iload_n hx hb dX3_count_6 rfl (lv_at hl 1 rfl) ?_
    refine lv_bipush (v := (nI 10)) hx hb dX3_count_7 (by decide) ?_
    refine lv_isub hx hb dX3_count_9 ?_
    refine zq_cS (rest := []) ⟨hx, hb, hml, hown, hts⟩ (c_X3_isFunction l D cI cZ cW cC (wh - (nI 10))) (va_cwS 1 hts gX3_count_X3_isFunction rfl rfl rfl (by decide +kernel) ⟨Nat.le_of_ble_eq_true rfl, Nat.le_of_ble_eq_true rfl⟩) hK (fun k q h => by simp at h) rfl hl.1 rfl (Nat.le_of_ble_eq_true rfl) dX3_count_10 ⟨Nat.le_of_ble_eq_true rfl, Nat.le_of_ble_eq_true rfl⟩ (fun v hv => ?_)
    rcases hv with ⟨rfl, j, hj, e10⟩ | ⟨rfl, hyA⟩
    · refine W.eq (g2 := F0 m 13 ls [.int (1 : Int32)]) rfl ?_
      have e11 := zsubI e10
      subst e11
      refine lv_if_eq (tgt := 28) hx hb dX3_count_13 (by decide) (fun c13 => absurd c13 (by decide)) (fun c13 => ?_)
      refine lv_aload_n hx hb dX3_count_16 rfl (lv_at hl 0 rfl) ?_
      refine zq_get hx hb hts in_X3_count_X3 hown hK hP 0 rfl rfl 0 (by decide) (hts _ w_X3_count__fieldLink_RX3_12_WordsBeside_code_LWordsBeside_Code__2ab9f4) rfl dX3_count_17 ?_
      refine lv_iload_n hx hb dX3_count_20 rfl (lv_at hl 1 rfl) ?_
      refine lv_bipush (v := (nI 10)) hx hb dX3_count_21 (by decide) ?_
      refine lv_isub hx hb dX3_count_23 ?_
      refine zq_te (y := (nI j)) (by rw [pk_sub (by omega), show 10 + j - 10 = j by omega]) ?_
      refine zq_cV (rest := []) ⟨hx, hb, hml, hown, hts⟩ (c_X1_length l D cI cZ cW cC (ad 1) (ad 2) (ad 3) st ln j hj) (cwV 1 hts gX3_count_X1_length rfl rfl rfl (by decide +kernel) ⟨Nat.le_of_ble_eq_true rfl, Nat.le_of_ble_eq_true rfl⟩) hK (zP_3 (hP 1 _ rfl) (hP 2 _ rfl) (hP 3 _ rfl)) 1 0 rfl rfl rfl hl.1 rfl (Nat.le_of_ble_eq_true rfl) dX3_count_24 ⟨Nat.le_of_ble_eq_true rfl, Nat.le_of_ble_eq_true rfl⟩ (fun v hv => ?_)
      obtain rfl := hv
      refine W.eq (g2 := F0 m 27 ls [.int (ln j)]) rfl ?_
      exact ret _ _ _ _ _ _ (by exact ⟨by rw [zcnt_10 hj], _, sn, rfl, hsn, hOK⟩) hP hD hS dX3_count_27
    · refine W.eq (g2 := F0 m 13 ls [.int (0 : Int32)]) rfl ?_
      refine lv_if_eq (tgt := 28) hx hb dX3_count_13 (by decide) (fun c13 => ?_) (fun c13 => absurd c13 (by decide))
      have hy1 := znob (b := 10) (by omega) hyA
      refine lv_iload_n hx hb dX3_count_28 rfl (lv_at hl 1 rfl) ?_
      refine lv_bipush (v := (nI 20)) hx hb dX3_count_29 (by decide) ?_
      refine lv_icmp_lt (tgt := 56) hx hb dX3_count_31 (by decide) (fun c31 => ?_) (fun c31 => ?_)
      · have hy2 := znoa (b := 20) (by omega) c31
        refine lv_iload_n hx hb dX3_count_56 rfl (lv_at hl 1 rfl) ?_
        by_cases k57_0 : wh = (0 : Int32)
        · refine lv_tableIn (tgt := 96) hx hb dX3_count_57 (by rw [k57_0]; decide) (by rw [k57_0]; decide) (by rw [k57_0]; rfl) (by decide) ?_
          refine lv_aload_n hx hb dX3_count_96 rfl (lv_at hl 0 rfl) ?_
          refine zq_get hx hb hts in_X3_count_X3 hown hK hP 0 rfl rfl 6 (by decide) (hts _ w_X3_count__fieldLink_RX3_40_WordsBeside_came_I__48f8c3) rfl dX3_count_97 ?_
          refine zq_te (y := (nI n)) en ?_
          exact ret _ _ _ _ _ _ (by exact ⟨by rw [zcnt_lo hy1 hy2]; simp [k57_0], _, sn, rfl, hsn, hOK⟩) hP hD hS dX3_count_100
        · by_cases k57_1 : wh = (1 : Int32)
          · refine lv_tableIn (tgt := 101) hx hb dX3_count_57 (by rw [k57_1]; decide) (by rw [k57_1]; decide) (by rw [k57_1]; rfl) (by decide) ?_
            refine lv_aload_n hx hb dX3_count_101 rfl (lv_at hl 0 rfl) ?_
            refine zq_get hx hb hts in_X3_count_X3 hown hK hP 0 rfl rfl 4 (by decide) (hts _ w_X3_count__fieldLink_RX3_31_WordsBeside_kept_I__a1b92e) rfl dX3_count_102 ?_
            refine zq_te (y := (nI k)) ek ?_
            exact ret _ _ _ _ _ _ (by exact ⟨by rw [zcnt_lo hy1 hy2]; simp [k57_1], _, sn, rfl, hsn, hOK⟩) hP hD hS dX3_count_105
          · by_cases k57_2 : wh = (2 : Int32)
            · refine lv_tableIn (tgt := 106) hx hb dX3_count_57 (by rw [k57_2]; decide) (by rw [k57_2]; decide) (by rw [k57_2]; rfl) (by decide) ?_
              refine lv_aload_n hx hb dX3_count_106 rfl (lv_at hl 0 rfl) ?_
              refine lv_iconst (v := (0 : Int32)) hx hb dX3_count_107 (by decide) ?_
              refine zq_cM (rest := []) ⟨hx, hb, hml, hown, hts⟩ (c_X3_howManyStand l D cI cZ cW cC ad st ln N fs fc hm (nI sn) kp cm PL pf sn hsn rfl L HL HV hOK Gt hGt n hn en co fo bo kF fF sF lh mF HC hfo 0 _) (cwV 1 hts gX3_count_X3_howManyStand rfl rfl rfl (by decide +kernel) ⟨Nat.le_of_ble_eq_true rfl, Nat.le_of_ble_eq_true rfl⟩) hK hP hD hS hA 3 0 rfl rfl rfl hl.1 rfl (Nat.le_of_ble_eq_true rfl) dX3_count_108 ⟨Nat.le_of_ble_eq_true rfl, Nat.le_of_ble_eq_true rfl⟩ (fun v w1 H locs hv hP hD hS => ?_)
              obtain ⟨rfl, N3, sn3, rfl, hs3, hO3⟩ := hv
              have hP : va_P D vwCl ((cX cI cW cC ad st ln N3 fs fc hm (nI sn3) kp cm) ++ va_pl PL pf) H := hP
              have hD : va_D A ((cX cI cW cC ad st ln N3 fs fc hm (nI sn3) kp cm) ++ va_pl PL pf) := hD
              refine W.eq (g2 := F0 m 111 ls [.int (nI (fb_ct (fun i => decide ((zstd (zheld (zdn Gt fo kF fF sF i)) (lh i)) = 0)) n))]) rfl ?_
              exact ret _ _ _ _ _ _ (by exact ⟨by rw [zcnt_lo hy1 hy2]; simp [k57_2], _, sn3, rfl, hs3, hO3⟩) hP hD hS dX3_count_111
            · by_cases k57_3 : wh = (3 : Int32)
              · refine lv_tableIn (tgt := 112) hx hb dX3_count_57 (by rw [k57_3]; decide) (by rw [k57_3]; decide) (by rw [k57_3]; rfl) (by decide) ?_
                refine lv_aload_n hx hb dX3_count_112 rfl (lv_at hl 0 rfl) ?_
                refine lv_iconst (v := (1 : Int32)) hx hb dX3_count_113 (by decide) ?_
                refine zq_cM (rest := []) ⟨hx, hb, hml, hown, hts⟩ (c_X3_howManyStand l D cI cZ cW cC ad st ln N fs fc hm (nI sn) kp cm PL pf sn hsn rfl L HL HV hOK Gt hGt n hn en co fo bo kF fF sF lh mF HC hfo 1 _) (cwV 1 hts gX3_count_X3_howManyStand rfl rfl rfl (by decide +kernel) ⟨Nat.le_of_ble_eq_true rfl, Nat.le_of_ble_eq_true rfl⟩) hK hP hD hS hA 3 0 rfl rfl rfl hl.1 rfl (Nat.le_of_ble_eq_true rfl) dX3_count_114 ⟨Nat.le_of_ble_eq_true rfl, Nat.le_of_ble_eq_true rfl⟩ (fun v w1 H locs hv hP hD hS => ?_)
                obtain ⟨rfl, N3, sn3, rfl, hs3, hO3⟩ := hv
                have hP : va_P D vwCl ((cX cI cW cC ad st ln N3 fs fc hm (nI sn3) kp cm) ++ va_pl PL pf) H := hP
                have hD : va_D A ((cX cI cW cC ad st ln N3 fs fc hm (nI sn3) kp cm) ++ va_pl PL pf) := hD
                refine W.eq (g2 := F0 m 117 ls [.int (nI (fb_ct (fun i => decide ((zstd (zheld (zdn Gt fo kF fF sF i)) (lh i)) = 1)) n))]) rfl ?_
                exact ret _ _ _ _ _ _ (by exact ⟨by rw [zcnt_lo hy1 hy2]; simp [k57_3], _, sn3, rfl, hs3, hO3⟩) hP hD hS dX3_count_117
              · by_cases k57_4 : wh = (4 : Int32)
                · refine lv_tableIn (tgt := 118) hx hb dX3_count_57 (by rw [k57_4]; decide) (by rw [k57_4]; decide) (by rw [k57_4]; rfl) (by decide) ?_
                  refine lv_aload_n hx hb dX3_count_118 rfl (lv_at hl 0 rfl) ?_
                  refine lv_iconst (v := (2 : Int32)) hx hb dX3_count_119 (by decide) ?_
                  refine zq_cM (rest := []) ⟨hx, hb, hml, hown, hts⟩ (c_X3_howManyStand l D cI cZ cW cC ad st ln N fs fc hm (nI sn) kp cm PL pf sn hsn rfl L HL HV hOK Gt hGt n hn en co fo bo kF fF sF lh mF HC hfo 2 _) (cwV 1 hts gX3_count_X3_howManyStand rfl rfl rfl (by decide +kernel) ⟨Nat.le_of_ble_eq_true rfl, Nat.le_of_ble_eq_true rfl⟩) hK hP hD hS hA 3 0 rfl rfl rfl hl.1 rfl (Nat.le_of_ble_eq_true rfl) dX3_count_120 ⟨Nat.le_of_ble_eq_true rfl, Nat.le_of_ble_eq_true rfl⟩ (fun v w1 H locs hv hP hD hS => ?_)
                  obtain ⟨rfl, N3, sn3, rfl, hs3, hO3⟩ := hv
                  have hP : va_P D vwCl ((cX cI cW cC ad st ln N3 fs fc hm (nI sn3) kp cm) ++ va_pl PL pf) H := hP
                  have hD : va_D A ((cX cI cW cC ad st ln N3 fs fc hm (nI sn3) kp cm) ++ va_pl PL pf) := hD
                  refine W.eq (g2 := F0 m 123 ls [.int (nI (fb_ct (fun i => decide ((zstd (zheld (zdn Gt fo kF fF sF i)) (lh i)) = 2)) n))]) rfl ?_
                  exact ret _ _ _ _ _ _ (by exact ⟨by rw [zcnt_lo hy1 hy2]; simp [k57_4], _, sn3, rfl, hs3, hO3⟩) hP hD hS dX3_count_123
                · by_cases k57_5 : wh = (5 : Int32)
                  · refine lv_tableIn (tgt := 124) hx hb dX3_count_57 (by rw [k57_5]; decide) (by rw [k57_5]; decide) (by rw [k57_5]; rfl) (by decide) ?_
                    refine lv_aload_n hx hb dX3_count_124 rfl (lv_at hl 0 rfl) ?_
                    refine zq_cV (rest := []) ⟨hx, hb, hml, hown, hts⟩ (c_X3_howManyMarked l D cI cZ cW cC ad st ln N fs fc hm (nI sn) kp cm PL pf n hn en co fo bo kF fF sF lh mF HC) (cwV 0 hts gX3_count_X3_howManyMarked rfl rfl rfl (by decide +kernel) ⟨Nat.le_of_ble_eq_true rfl, Nat.le_of_ble_eq_true rfl⟩) hK hP 3 0 rfl rfl rfl hl.1 rfl (Nat.le_of_ble_eq_true rfl) dX3_count_125 ⟨Nat.le_of_ble_eq_true rfl, Nat.le_of_ble_eq_true rfl⟩ (fun v hv => ?_)
                    obtain rfl := hv
                    refine W.eq (g2 := F0 m 128 ls [.int (nI (fb_ct (fun i => decide (¬ mF i = 0)) n))]) rfl ?_
                    exact ret _ _ _ _ _ _ (by exact ⟨by rw [zcnt_lo hy1 hy2]; simp [k57_5], _, sn, rfl, hsn, hOK⟩) hP hD hS dX3_count_128
                  · refine lv_tableOut (tgt := 129) hx hb dX3_count_57 (by have k57_0T := lv_neT k57_0 (a := 0) rfl; have k57_1T := lv_neT k57_1 (a := 1) rfl; have k57_2T := lv_neT k57_2 (a := 2) rfl; have k57_3T := lv_neT k57_3 (a := 3) rfl; have k57_4T := lv_neT k57_4 (a := 4) rfl; have k57_5T := lv_neT k57_5 (a := 5) rfl; omega) (by decide) ?_
                    refine lv_iconst (v := (-1 : Int32)) hx hb dX3_count_129 (by decide) ?_
                    exact ret _ _ _ _ _ _ (by exact ⟨by rw [zcnt_lo hy1 hy2]; simp [k57_0, k57_1, k57_2, k57_3, k57_4, k57_5], _, sn, rfl, hsn, hOK⟩) hP hD hS dX3_count_130
      · refine lv_iload_n hx hb dX3_count_34 rfl (lv_at hl 1 rfl) ?_
        refine lv_bipush (v := (nI 20)) hx hb dX3_count_35 (by decide) ?_
        refine lv_isub hx hb dX3_count_37 ?_
        refine zq_cS (rest := []) ⟨hx, hb, hml, hown, hts⟩ (c_X3_isFunction l D cI cZ cW cC (wh - (nI 20))) (va_cwS 1 hts gX3_count_X3_isFunction rfl rfl rfl (by decide +kernel) ⟨Nat.le_of_ble_eq_true rfl, Nat.le_of_ble_eq_true rfl⟩) hK (fun k q h => by simp at h) rfl hl.1 rfl (Nat.le_of_ble_eq_true rfl) dX3_count_38 ⟨Nat.le_of_ble_eq_true rfl, Nat.le_of_ble_eq_true rfl⟩ (fun v hv => ?_)
        rcases hv with ⟨rfl, j, hj, e10⟩ | ⟨rfl, hyB⟩
        · refine W.eq (g2 := F0 m 41 ls [.int (1 : Int32)]) rfl ?_
          have e11 := zsubI e10
          subst e11
          refine lv_if_eq (tgt := 56) hx hb dX3_count_41 (by decide) (fun c41 => absurd c41 (by decide)) (fun c41 => ?_)
          refine lv_aload_n hx hb dX3_count_44 rfl (lv_at hl 0 rfl) ?_
          refine zq_cM (rest := []) ⟨hx, hb, hml, hown, hts⟩ (c_X3_present l D cI cZ cW cC ad st ln N fs fc hm (nI sn) kp cm PL pf L HL HV sn hsn rfl hOK _) (cwV 0 hts gX3_count_X3_present rfl rfl rfl (by decide +kernel) ⟨Nat.le_of_ble_eq_true rfl, Nat.le_of_ble_eq_true rfl⟩) hK hP hD hS hA 3 0 rfl rfl rfl hl.1 rfl (Nat.le_of_ble_eq_true rfl) dX3_count_45 ⟨Nat.le_of_ble_eq_true rfl, Nat.le_of_ble_eq_true rfl⟩ (fun v w1 H locs hv hP hD hS => ?_)
          obtain ⟨rfl, N2, rfl, hN2⟩ := hv
          have hP : va_P D vwCl ((cX cI cW cC ad st ln N2 fs fc hm (nI 6) kp cm) ++ va_pl PL pf) H := hP
          have hD : va_D A ((cX cI cW cC ad st ln N2 fs fc hm (nI 6) kp cm) ++ va_pl PL pf) := hD
          refine W.eq (g2 := F0 m 48 ls [.ref (ad 4)]) rfl ?_
          have eN : ∀ j, j < 1536 → N2 j = Gt j := zOK_one (by omega) hN2 hGt HV
          refine lv_iload_n hx hb dX3_count_48 rfl (lv_at hl 1 rfl) ?_
          refine lv_bipush (v := (nI 20)) hx hb dX3_count_49 (by decide) ?_
          refine lv_isub hx hb dX3_count_51 ?_
          refine zq_te (y := (nI j)) (by rw [pk_sub (by omega), show 20 + j - 20 = j by omega]) ?_
          refine zq_cV (rest := []) ⟨hx, hb, hml, hown, hts⟩ (c_X2_refusals l D cI cZ cW cC (ad 4) (ad 5) N2 j hj) (cwV 1 hts gX3_count_X2_refusals rfl rfl rfl (by decide +kernel) ⟨Nat.le_of_ble_eq_true rfl, Nat.le_of_ble_eq_true rfl⟩) hK (zP_2 (hP 4 _ rfl) (hP 5 _ rfl)) 2 0 rfl rfl rfl hl.1 rfl (Nat.le_of_ble_eq_true rfl) dX3_count_52 ⟨Nat.le_of_ble_eq_true rfl, Nat.le_of_ble_eq_true rfl⟩ (fun v hv => ?_)
          obtain rfl := hv
          refine W.eq (g2 := F0 m 55 ls [.int (nI (fb_ct (zref N2 j) 256))]) rfl ?_
          exact ret _ _ _ _ _ _ (by exact ⟨by rw [zcnt_20 hj, fb_ct_cong (zref_cong (zblk eN hj))], _, 6, rfl, by omega, hN2⟩) hP hD hS dX3_count_55
        · refine W.eq (g2 := F0 m 41 ls [.int (0 : Int32)]) rfl ?_
          refine lv_if_eq (tgt := 56) hx hb dX3_count_41 (by decide) (fun c41 => ?_) (fun c41 => absurd c41 (by decide))
          have hy2 := znob (b := 20) (by omega) hyB
          refine lv_iload_n hx hb dX3_count_56 rfl (lv_at hl 1 rfl) ?_
          by_cases k57_0 : wh = (0 : Int32)
          · refine lv_tableIn (tgt := 96) hx hb dX3_count_57 (by rw [k57_0]; decide) (by rw [k57_0]; decide) (by rw [k57_0]; rfl) (by decide) ?_
            refine lv_aload_n hx hb dX3_count_96 rfl (lv_at hl 0 rfl) ?_
            refine zq_get hx hb hts in_X3_count_X3 hown hK hP 0 rfl rfl 6 (by decide) (hts _ w_X3_count__fieldLink_RX3_40_WordsBeside_came_I__48f8c3) rfl dX3_count_97 ?_
            refine zq_te (y := (nI n)) en ?_
            exact ret _ _ _ _ _ _ (by exact ⟨by rw [zcnt_lo hy1 hy2]; simp [k57_0], _, sn, rfl, hsn, hOK⟩) hP hD hS dX3_count_100
          · by_cases k57_1 : wh = (1 : Int32)
            · refine lv_tableIn (tgt := 101) hx hb dX3_count_57 (by rw [k57_1]; decide) (by rw [k57_1]; decide) (by rw [k57_1]; rfl) (by decide) ?_
              refine lv_aload_n hx hb dX3_count_101 rfl (lv_at hl 0 rfl) ?_
              refine zq_get hx hb hts in_X3_count_X3 hown hK hP 0 rfl rfl 4 (by decide) (hts _ w_X3_count__fieldLink_RX3_31_WordsBeside_kept_I__a1b92e) rfl dX3_count_102 ?_
              refine zq_te (y := (nI k)) ek ?_
              exact ret _ _ _ _ _ _ (by exact ⟨by rw [zcnt_lo hy1 hy2]; simp [k57_1], _, sn, rfl, hsn, hOK⟩) hP hD hS dX3_count_105
            · by_cases k57_2 : wh = (2 : Int32)
              · refine lv_tableIn (tgt := 106) hx hb dX3_count_57 (by rw [k57_2]; decide) (by rw [k57_2]; decide) (by rw [k57_2]; rfl) (by decide) ?_
                refine lv_aload_n hx hb dX3_count_106 rfl (lv_at hl 0 rfl) ?_
                refine lv_iconst (v := (0 : Int32)) hx hb dX3_count_107 (by decide) ?_
                refine zq_cM (rest := []) ⟨hx, hb, hml, hown, hts⟩ (c_X3_howManyStand l D cI cZ cW cC ad st ln N fs fc hm (nI sn) kp cm PL pf sn hsn rfl L HL HV hOK Gt hGt n hn en co fo bo kF fF sF lh mF HC hfo 0 _) (cwV 1 hts gX3_count_X3_howManyStand rfl rfl rfl (by decide +kernel) ⟨Nat.le_of_ble_eq_true rfl, Nat.le_of_ble_eq_true rfl⟩) hK hP hD hS hA 3 0 rfl rfl rfl hl.1 rfl (Nat.le_of_ble_eq_true rfl) dX3_count_108 ⟨Nat.le_of_ble_eq_true rfl, Nat.le_of_ble_eq_true rfl⟩ (fun v w1 H locs hv hP hD hS => ?_)
                obtain ⟨rfl, N3, sn3, rfl, hs3, hO3⟩ := hv
                have hP : va_P D vwCl ((cX cI cW cC ad st ln N3 fs fc hm (nI sn3) kp cm) ++ va_pl PL pf) H := hP
                have hD : va_D A ((cX cI cW cC ad st ln N3 fs fc hm (nI sn3) kp cm) ++ va_pl PL pf) := hD
                refine W.eq (g2 := F0 m 111 ls [.int (nI (fb_ct (fun i => decide ((zstd (zheld (zdn Gt fo kF fF sF i)) (lh i)) = 0)) n))]) rfl ?_
                exact ret _ _ _ _ _ _ (by exact ⟨by rw [zcnt_lo hy1 hy2]; simp [k57_2], _, sn3, rfl, hs3, hO3⟩) hP hD hS dX3_count_111
              · by_cases k57_3 : wh = (3 : Int32)
                · refine lv_tableIn (tgt := 112) hx hb dX3_count_57 (by rw [k57_3]; decide) (by rw [k57_3]; decide) (by rw [k57_3]; rfl) (by decide) ?_
                  refine lv_aload_n hx hb dX3_count_112 rfl (lv_at hl 0 rfl) ?_
                  refine lv_iconst (v := (1 : Int32)) hx hb dX3_count_113 (by decide) ?_
                  refine zq_cM (rest := []) ⟨hx, hb, hml, hown, hts⟩ (c_X3_howManyStand l D cI cZ cW cC ad st ln N fs fc hm (nI sn) kp cm PL pf sn hsn rfl L HL HV hOK Gt hGt n hn en co fo bo kF fF sF lh mF HC hfo 1 _) (cwV 1 hts gX3_count_X3_howManyStand rfl rfl rfl (by decide +kernel) ⟨Nat.le_of_ble_eq_true rfl, Nat.le_of_ble_eq_true rfl⟩) hK hP hD hS hA 3 0 rfl rfl rfl hl.1 rfl (Nat.le_of_ble_eq_true rfl) dX3_count_114 ⟨Nat.le_of_ble_eq_true rfl, Nat.le_of_ble_eq_true rfl⟩ (fun v w1 H locs hv hP hD hS => ?_)
                  obtain ⟨rfl, N3, sn3, rfl, hs3, hO3⟩ := hv
                  have hP : va_P D vwCl ((cX cI cW cC ad st ln N3 fs fc hm (nI sn3) kp cm) ++ va_pl PL pf) H := hP
                  have hD : va_D A ((cX cI cW cC ad st ln N3 fs fc hm (nI sn3) kp cm) ++ va_pl PL pf) := hD
                  refine W.eq (g2 := F0 m 117 ls [.int (nI (fb_ct (fun i => decide ((zstd (zheld (zdn Gt fo kF fF sF i)) (lh i)) = 1)) n))]) rfl ?_
                  exact ret _ _ _ _ _ _ (by exact ⟨by rw [zcnt_lo hy1 hy2]; simp [k57_3], _, sn3, rfl, hs3, hO3⟩) hP hD hS dX3_count_117
                · by_cases k57_4 : wh = (4 : Int32)
                  · refine lv_tableIn (tgt := 118) hx hb dX3_count_57 (by rw [k57_4]; decide) (by rw [k57_4]; decide) (by rw [k57_4]; rfl) (by decide) ?_
                    refine lv_aload_n hx hb dX3_count_118 rfl (lv_at hl 0 rfl) ?_
                    refine lv_iconst (v := (2 : Int32)) hx hb dX3_count_119 (by decide) ?_
                    refine zq_cM (rest := []) ⟨hx, hb, hml, hown, hts⟩ (c_X3_howManyStand l D cI cZ cW cC ad st ln N fs fc hm (nI sn) kp cm PL pf sn hsn rfl L HL HV hOK Gt hGt n hn en co fo bo kF fF sF lh mF HC hfo 2 _) (cwV 1 hts gX3_count_X3_howManyStand rfl rfl rfl (by decide +kernel) ⟨Nat.le_of_ble_eq_true rfl, Nat.le_of_ble_eq_true rfl⟩) hK hP hD hS hA 3 0 rfl rfl rfl hl.1 rfl (Nat.le_of_ble_eq_true rfl) dX3_count_120 ⟨Nat.le_of_ble_eq_true rfl, Nat.le_of_ble_eq_true rfl⟩ (fun v w1 H locs hv hP hD hS => ?_)
                    obtain ⟨rfl, N3, sn3, rfl, hs3, hO3⟩ := hv
                    have hP : va_P D vwCl ((cX cI cW cC ad st ln N3 fs fc hm (nI sn3) kp cm) ++ va_pl PL pf) H := hP
                    have hD : va_D A ((cX cI cW cC ad st ln N3 fs fc hm (nI sn3) kp cm) ++ va_pl PL pf) := hD
                    refine W.eq (g2 := F0 m 123 ls [.int (nI (fb_ct (fun i => decide ((zstd (zheld (zdn Gt fo kF fF sF i)) (lh i)) = 2)) n))]) rfl ?_
                    exact ret _ _ _ _ _ _ (by exact ⟨by rw [zcnt_lo hy1 hy2]; simp [k57_4], _, sn3, rfl, hs3, hO3⟩) hP hD hS dX3_count_123
                  · by_cases k57_5 : wh = (5 : Int32)
                    · refine lv_tableIn (tgt := 124) hx hb dX3_count_57 (by rw [k57_5]; decide) (by rw [k57_5]; decide) (by rw [k57_5]; rfl) (by decide) ?_
                      refine lv_aload_n hx hb dX3_count_124 rfl (lv_at hl 0 rfl) ?_
                      refine zq_cV (rest := []) ⟨hx, hb, hml, hown, hts⟩ (c_X3_howManyMarked l D cI cZ cW cC ad st ln N fs fc hm (nI sn) kp cm PL pf n hn en co fo bo kF fF sF lh mF HC) (cwV 0 hts gX3_count_X3_howManyMarked rfl rfl rfl (by decide +kernel) ⟨Nat.le_of_ble_eq_true rfl, Nat.le_of_ble_eq_true rfl⟩) hK hP 3 0 rfl rfl rfl hl.1 rfl (Nat.le_of_ble_eq_true rfl) dX3_count_125 ⟨Nat.le_of_ble_eq_true rfl, Nat.le_of_ble_eq_true rfl⟩ (fun v hv => ?_)
                      obtain rfl := hv
                      refine W.eq (g2 := F0 m 128 ls [.int (nI (fb_ct (fun i => decide (¬ mF i = 0)) n))]) rfl ?_
                      exact ret _ _ _ _ _ _ (by exact ⟨by rw [zcnt_lo hy1 hy2]; simp [k57_5], _, sn, rfl, hsn, hOK⟩) hP hD hS dX3_count_128
                    · refine lv_tableOut (tgt := 129) hx hb dX3_count_57 (by have k57_0T := lv_neT k57_0 (a := 0) rfl; have k57_1T := lv_neT k57_1 (a := 1) rfl; have k57_2T := lv_neT k57_2 (a := 2) rfl; have k57_3T := lv_neT k57_3 (a := 3) rfl; have k57_4T := lv_neT k57_4 (a := 4) rfl; have k57_5T := lv_neT k57_5 (a := 5) rfl; omega) (by decide) ?_
                      refine lv_iconst (v := (-1 : Int32)) hx hb dX3_count_129 (by decide) ?_
                      exact ret _ _ _ _ _ _ (by exact ⟨by rw [zcnt_lo hy1 hy2]; simp [k57_0, k57_1, k57_2, k57_3, k57_4, k57_5], _, sn, rfl, hsn, hOK⟩) hP hD hS dX3_count_130
