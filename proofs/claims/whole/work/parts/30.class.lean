/-! WordsBeside: its world (nine cells and a pool), private methods -/
abbrev cX (cI cW cC : ClassId) (ad : Nat → Nat) (st ln N : Nat → Int32) (fs fc : Nat → Option Nat) (hm : Nat → Int32) (se kp cm : Int32) : va_W := [(ad 0, .inr (3, [.ref (ad 1), .ref (ad 4), .int se, .ref (ad 6), .int kp, .ref (ad 7), .int cm, .ref (ad 8)])), (ad 1, .inr (1, [.ref (ad 2), .ref (ad 3)])), (ad 2, .inl (cI, 72, .inl st)), (ad 3, .inl (cI, 6, .inl ln)), (ad 4, .inr (2, [.ref (ad 5)])), (ad 5, .inl (cI, 1536, .inl N)), (ad 6, .inl (cW, 31, .inr (.inr (.inr (.inr fs))))), (ad 7, .inl (cC, 40, .inr (.inr (.inr (.inr fc))))), (ad 8, .inl (cI, 40, .inl hm))]
def zPW (cI : ClassId) (PL : List Nat) (pf : Nat → va_E) (fs : Nat → Option Nat) (wo go : Nat → Nat) (Gs : Nat → Nat → Int32) (k : Nat) : Prop := ∀ t, t ≤ k → fs t = some (wo t) ∧ wo t ∈ PL ∧ pf (wo t) = .inr (2, [.ref (go t)]) ∧ go t ∈ PL ∧ pf (go t) = .inl (cI, 1536, .inl (Gs t))
def zPC (PL : List Nat) (pf : Nat → va_E) (fc : Nat → Option Nat) (co fo bo : Nat → Nat) (kF fF sF lh mF : Nat → Int32) (n : Nat) : Prop := (∀ i, i < n → fc i = some (co i) ∧ co i ∈ PL ∧ pf (co i) = .inr (0, [.int (nI (fo i)), .int (kF i), .int (fF i), .int (sF i), .int (nI (bo i)), .int (lh i), .int (mF i)])) ∧ ∀ i j, i < n → j < n → co i = co j → i = j
theorem zpl_at {X : va_W} {PL : List Nat} {pf : Nat → va_E} {a : Nat} {e : va_E} (h : a ∈ PL) (he : pf a = e) : ∃ q : Nat, (X ++ va_pl PL pf)[q]? = some (a, e) := by
  obtain ⟨q, hq⟩ := va_pl_get (X := X) (f := pf) h
  exact ⟨q, by rw [hq, he]⟩
theorem zP_pl {D : va_G} {cl : List vw_C} {X : va_W} {PL : List Nat} {pf : Nat → va_E} {H : Heap} (hP : va_P D cl (X ++ va_pl PL pf) H) {a : Nat} {e : va_E} (h : a ∈ PL) (he : pf a = e) : va_at D cl (a, e) H := by
  obtain ⟨q, hq⟩ := zpl_at (X := X) h he
  exact hP q _ hq
theorem zP_3 {D : va_G} {cl : List vw_C} {H : Heap} {a b c : Nat × va_E} (h1 : va_at D cl a H) (h2 : va_at D cl b H) (h3 : va_at D cl c H) : va_P D cl [a, b, c] H := by
  intro k q hk
  match k, hk with
  | 0, hk => cases hk; exact h1
  | 1, hk => cases hk; exact h2
  | 2, hk => cases hk; exact h3
  | k + 3, hk => simp at hk
theorem zP_2 {D : va_G} {cl : List vw_C} {H : Heap} {a b : Nat × va_E} (h1 : va_at D cl a H) (h2 : va_at D cl b H) : va_P D cl [a, b] H := by
  intro k q hk
  match k, hk with
  | 0, hk => cases hk; exact h1
  | 1, hk => cases hk; exact h2
  | k + 2, hk => simp at hk
theorem zmin {a b : Nat} (ha : a ≤ 6) (hb : b < 6) : (if nI b < nI a then nI b else nI a) = nI (min a b) := by
  by_cases h : nI b < nI a
  · rw [if_pos h]
    have := zlt h
    congr 1
    omega
  · rw [if_neg h]
    have := znlt h
    congr 1
    omega

theorem w_X3_unsettle__code_Lib_Math_min_name_Lib_Math_min_code_2_some_int__0fd793 : (.code Lib.Math.min.name Lib.Math.min.code 2 (some .int) : Cond) ∈ wsX3_unsettle := by decide +kernel
theorem w_X3_unsettle__fieldLink_RX3_23_WordsBeside_settled_I__4ff7c2 : (.fieldLink RX3 23 "WordsBeside" "settled" "I" : Cond) ∈ wsX3_unsettle := by decide +kernel
theorem w_X3_unsettle__initialized_java_lang_Math__868a92 : (.initialized "java/lang/Math" : Cond) ∈ wsX3_unsettle := by decide +kernel
theorem w_X3_unsettle__methodLink_RX3_178_Lib_Math_min_name_219039 : (.methodLink RX3 178 Lib.Math.min.name : Cond) ∈ wsX3_unsettle := by decide +kernel
theorem w_X3_unsettle__static_Lib_Math_min_name_79b26a : (.static Lib.Math.min.name : Cond) ∈ wsX3_unsettle := by decide +kernel
theorem in_X3_unsettle_X3 : ∀ w ∈ wsX30, w ∈ wsX3_unsettle := fun _ h => List.mem_cons_of_mem _ (List.mem_append_right _ h)
set_option maxHeartbeats 4000000 in
set_option maxRecDepth 100000 in
theorem c_X3_unsettle (l : Launch) (D : va_G) (cI cZ cW cC : ClassId) (ad : Nat → Nat) (st ln N : Nat → Int32) (fs fc : Nat → Option Nat) (hm : Nat → Int32) (se kp cm : Int32) (PL : List Nat) (pf : Nat → va_E) (sn f : Nat) (hsn : sn ≤ 6) (hf : f < 6) (es : se = nI sn) (sz : Nat) : zq_mu l D cI cZ cW cC yX3_unsettle wsX3_unsettle ({ frames := 1, cells := 0, slots := 0, locals := 21 } : Room) [.ref (ad 0), .int (nI f)] ((cX cI cW cC ad st ln N fs fc hm se kp cm) ++ va_pl PL pf) sz (fun v w1 => v = none ∧ w1 = ((cX cI cW cC ad st ln N fs fc hm (nI (min sn f)) kp cm) ++ va_pl PL pf)) 0 0 := by
  refine zq_muV (own := RX3) (by decide) rfl rfl (Nat.le_of_ble_eq_true rfl) ?_
  intro p e s m below meth c Q A ls hsz hF hin hA hP hK hD hS hl ret
  obtain ⟨hx, hb, hml, hown, hts⟩ := hF
  have hl : lv_has ls 2 [(0, .ref (ad 0)), (1, .int (nI f))] := hl
  subst es
  refine lv_aload_n hx hb dX3_unsettle_0 rfl (lv_at hl 0 rfl) ?_
  refine lv_aload_n hx hb dX3_unsettle_1 rfl (lv_at hl 0 rfl) ?_
  refine zq_get hx hb hts in_X3_unsettle_X3 hown hK hP 0 rfl rfl 2 (by decide) (hts _ w_X3_unsettle__fieldLink_RX3_23_WordsBeside_settled_I__4ff7c2) rfl dX3_unsettle_2 ?_
  refine lv_iload_n hx hb dX3_unsettle_5 rfl (lv_at hl 1 rfl) ?_
  refine va_mmin hx hb (hml.trans hl.1.symm) hown (hts _ w_X3_unsettle__methodLink_RX3_178_Lib_Math_min_name_219039) (hts _ w_X3_unsettle__static_Lib_Math_min_name_79b26a) (hts _ w_X3_unsettle__initialized_java_lang_Math__868a92) (hts _ w_X3_unsettle__code_Lib_Math_min_name_Lib_Math_min_code_2_some_int__0fd793) (Nat.le_of_ble_eq_true rfl) (Nat.le_of_ble_eq_true rfl) (Nat.le_of_ble_eq_true rfl) (Nat.le_of_ble_eq_true rfl) dX3_unsettle_6 ?_
  refine zq_te (y := (nI (min sn f))) (zmin hsn hf) ?_
  refine zq_put hx hb hts in_X3_unsettle_X3 tyX3 tyX3_ok nmX3 hown hK hP hD hS 0 rfl rfl 2 (by decide) (hts _ w_X3_unsettle__fieldLink_RX3_23_WordsBeside_settled_I__4ff7c2) rfl rfl rfl (Nat.le_of_ble_eq_true rfl) dX3_unsettle_9 (fun H locs hP hD hS => ?_)
  have hP : va_P D vwCl ((cX cI cW cC ad st ln N fs fc hm (nI (min sn f)) kp cm) ++ va_pl PL pf) H := hP
  have hD : va_D A ((cX cI cW cC ad st ln N fs fc hm (nI (min sn f)) kp cm) ++ va_pl PL pf) := hD
  exact ret _ _ _ _ _ ⟨rfl, rfl⟩ hP hD hS dX3_unsettle_12
theorem w_X3_present__fieldLink_RX3_12_WordsBeside_code_LWordsBeside_Code__2ab9f4 : (.fieldLink RX3 12 "WordsBeside" "code" "LWordsBeside$Code;" : Cond) ∈ wsX3_present := by decide +kernel
theorem w_X3_present__fieldLink_RX3_19_WordsBeside_now_LWordsBeside_World__4a21dc : (.fieldLink RX3 19 "WordsBeside" "now" "LWordsBeside$World;" : Cond) ∈ wsX3_present := by decide +kernel
theorem w_X3_present__fieldLink_RX3_23_WordsBeside_settled_I__4ff7c2 : (.fieldLink RX3 23 "WordsBeside" "settled" "I" : Cond) ∈ wsX3_present := by decide +kernel
theorem in_X3_present_X3 : ∀ w ∈ wsX30, w ∈ wsX3_present := fun _ h => List.mem_cons_of_mem _ (List.mem_append_left _ (List.mem_append_left _ (List.mem_append_right _ h)))
set_option maxHeartbeats 4000000 in
set_option maxRecDepth 100000 in
theorem c_X3_present (l : Launch) (D : va_G) (cI cZ cW cC : ClassId) (ad : Nat → Nat) (st ln N : Nat → Int32) (fs fc : Nat → Option Nat) (hm : Nat → Int32) (se kp cm : Int32) (PL : List Nat) (pf : Nat → va_E) (L : Nat → Nat) (HL : zHL ln L) (HV : ∀ f, f < 6 → zvs st f (L f)) (sn : Nat) (hsn : sn ≤ 6) (es : se = nI sn) (hOK : zOK st L N sn) (sz : Nat) : zq_mu l D cI cZ cW cC yX3_present wsX3_present ({ frames := 4, cells := 0, slots := 0, locals := 98 } : Room) [.ref (ad 0)] ((cX cI cW cC ad st ln N fs fc hm se kp cm) ++ va_pl PL pf) sz (fun v w1 => v = some (.ref (ad 4)) ∧ ∃ N2 : Nat → Int32, w1 = ((cX cI cW cC ad st ln N2 fs fc hm (nI 6) kp cm) ++ va_pl PL pf) ∧ zOK st L N2 6) 0 0 := by
  refine zq_muA (own := RX3) (by decide) rfl rfl (Nat.le_of_ble_eq_true rfl) ?_
  intro p e s m below meth c Q A ls hsz hF hin hA hP hK hD hS hl ret
  obtain ⟨hx, hb, hml, hown, hts⟩ := hF
  have hl : lv_has ls 2 [(0, .ref (ad 0))] := hl
  subst es
  refine lv_aload_n hx hb dX3_present_0 rfl (lv_at hl 0 rfl) ?_
  refine zq_get hx hb hts in_X3_present_X3 hown hK hP 0 rfl rfl 2 (by decide) (hts _ w_X3_present__fieldLink_RX3_23_WordsBeside_settled_I__4ff7c2) rfl dX3_present_1 ?_
  refine lv_istore_n (lv' := [(1, .int (nI sn)), (0, .ref (ad 0))]) hx hb dX3_present_4 rfl hl (by decide) rfl (fun ls hl => ?_)
  have loop5 : ∀ (fu5 : Nat) (a : Nat) (Na : Nat → Int32) (H : Heap) (locs : List Loc) (ls : Array Slot), (6 - a) < fu5 → (a ≤ 6) → (zOK st L Na a) → va_P D vwCl ((cX cI cW cC ad st ln Na fs fc hm (nI sn) kp cm) ++ va_pl PL pf) H → va_D A ((cX cI cW cC ad st ln Na fs fc hm (nI sn) kp cm) ++ va_pl PL pf) → va_S A s.heap H locs → lv_has ls 2 [(0, .ref (ad 0)), (1, .int (nI a))] → W p l e ({ frames := 4, cells := 0, slots := 0, locals := 98 } : Room) s m ([.ref (ad 0)] : List Value).toArray below meth c H locs 0 0 Q (F0 m 5 ls []) := by
    intro fu5
    induction fu5 with
    | zero => intro _ _ _ _ _ hmu; exact absurd hmu (Nat.not_lt_zero _)
    | succ fu5 ih5 =>
      intro a Na H locs ls hmu5 ha hka hP hD hS hl
      refine lv_iload_n hx hb dX3_present_5 rfl (lv_at hl 1 rfl) ?_
      refine lv_bipush (v := (nI 6)) hx hb dX3_present_6 (by decide) ?_
      refine lv_icmp_ge (tgt := 29) hx hb dX3_present_8 (by decide) (fun c8 => ?_) (fun c8 => ?_)
      · have h8 := zle c8
        refine lv_aload_n hx hb dX3_present_29 rfl (lv_at hl 0 rfl) ?_
        refine lv_bipush (v := (nI 6)) hx hb dX3_present_30 (by decide) ?_
        refine zq_put hx hb hts in_X3_present_X3 tyX3 tyX3_ok nmX3 hown hK hP hD hS 0 rfl rfl 2 (by decide) (hts _ w_X3_present__fieldLink_RX3_23_WordsBeside_settled_I__4ff7c2) rfl rfl rfl (Nat.le_of_ble_eq_true rfl) dX3_present_32 (fun H locs hP hD hS => ?_)
        have hP : va_P D vwCl ((cX cI cW cC ad st ln Na fs fc hm (nI 6) kp cm) ++ va_pl PL pf) H := hP
        have hD : va_D A ((cX cI cW cC ad st ln Na fs fc hm (nI 6) kp cm) ++ va_pl PL pf) := hD
        refine lv_aload_n hx hb dX3_present_35 rfl (lv_at hl 0 rfl) ?_
        refine zq_get hx hb hts in_X3_present_X3 hown hK hP 0 rfl rfl 1 (by decide) (hts _ w_X3_present__fieldLink_RX3_19_WordsBeside_now_LWordsBeside_World__4a21dc) rfl dX3_present_36 ?_
        exact ret _ _ _ _ _ _ (by exact ⟨rfl, Na, rfl, by rw [show a = 6 by omega] at hka; exact hka⟩) hP hD hS dX3_present_39
      · have h8 := znle c8
        refine lv_aload_n hx hb dX3_present_11 rfl (lv_at hl 0 rfl) ?_
        refine zq_get hx hb hts in_X3_present_X3 hown hK hP 0 rfl rfl 0 (by decide) (hts _ w_X3_present__fieldLink_RX3_12_WordsBeside_code_LWordsBeside_Code__2ab9f4) rfl dX3_present_12 ?_
        refine lv_iload_n hx hb dX3_present_15 rfl (lv_at hl 1 rfl) ?_
        refine lv_aload_n hx hb dX3_present_16 rfl (lv_at hl 0 rfl) ?_
        refine zq_get hx hb hts in_X3_present_X3 hown hK hP 0 rfl rfl 1 (by decide) (hts _ w_X3_present__fieldLink_RX3_19_WordsBeside_now_LWordsBeside_World__4a21dc) rfl dX3_present_17 ?_
        refine zq_cQ (rest := []) (X := [((ad 0), .inr (3, [.ref (ad 1), .ref (ad 4), .int (nI sn), .ref (ad 6), .int kp, .ref (ad 7), .int cm, .ref (ad 8)])), ((ad 1), .inr (1, [.ref (ad 2), .ref (ad 3)])), ((ad 2), .inl (cI, 72, .inl st)), ((ad 3), .inl (cI, 6, .inl ln)), ((ad 4), .inr (2, [.ref (ad 5)])), ((ad 5), .inl (cI, 1536, .inl Na)), ((ad 6), .inl (cW, 31, .inr (.inr (.inr (.inr fs))))), ((ad 7), .inl (cC, 40, .inr (.inr (.inr (.inr fc))))), ((ad 8), .inl (cI, 40, .inl hm))]) (pl := va_pl PL pf) (wr := [((ad 0), .inr (3, [.ref (ad 1), .ref (ad 4), .int (nI sn), .ref (ad 6), .int kp, .ref (ad 7), .int cm, .ref (ad 8)])), ((ad 6), .inl (cW, 31, .inr (.inr (.inr (.inr fs))))), ((ad 7), .inl (cC, 40, .inr (.inr (.inr (.inr fc))))), ((ad 8), .inl (cI, 40, .inl hm))]) ⟨hx, hb, hml, hown, hts⟩ (c_X1_runAll l D cI cZ cW cC (ad 1) (ad 2) (ad 3) st ln a (by omega) (L a) (HL a (by omega)).2 (HL a (by omega)).1 (zvs_val (HV a (by omega))) (ad 4) (ad 5) Na _) (cwV 2 hts gX3_present_X1_runAll rfl rfl rfl (by decide +kernel) ⟨Nat.le_of_ble_eq_true rfl, Nat.le_of_ble_eq_true rfl⟩) hK hP hD hS hA [1, 2, 3, 4, 5] [0, 6, 7, 8] rfl rfl rfl rfl (by decide) 1 0 rfl rfl rfl hl.1 rfl (Nat.le_of_ble_eq_true rfl) dX3_present_20 ⟨Nat.le_of_ble_eq_true rfl, Nat.le_of_ble_eq_true rfl⟩ (fun v w1 H locs hv hP hD hS => ?_)
        obtain ⟨rfl, G2, rfl, hG2⟩ := hv
        have hP := hP.part (cx := [((ad 0), .inr (3, [.ref (ad 1), .ref (ad 4), .int (nI sn), .ref (ad 6), .int kp, .ref (ad 7), .int cm, .ref (ad 8)])), ((ad 1), .inr (1, [.ref (ad 2), .ref (ad 3)])), ((ad 2), .inl (cI, 72, .inl st)), ((ad 3), .inl (cI, 6, .inl ln)), ((ad 4), .inr (2, [.ref (ad 5)])), ((ad 5), .inl (cI, 1536, .inl G2)), ((ad 6), .inl (cW, 31, .inr (.inr (.inr (.inr fs))))), ((ad 7), .inl (cC, 40, .inr (.inr (.inr (.inr fc))))), ((ad 8), .inl (cI, 40, .inl hm))]) [0, 4, 5, 6, 7, 8, 1, 2, 3] rfl
        have hD := hD.part (cx := [((ad 0), .inr (3, [.ref (ad 1), .ref (ad 4), .int (nI sn), .ref (ad 6), .int kp, .ref (ad 7), .int cm, .ref (ad 8)])), ((ad 1), .inr (1, [.ref (ad 2), .ref (ad 3)])), ((ad 2), .inl (cI, 72, .inl st)), ((ad 3), .inl (cI, 6, .inl ln)), ((ad 4), .inr (2, [.ref (ad 5)])), ((ad 5), .inl (cI, 1536, .inl G2)), ((ad 6), .inl (cW, 31, .inr (.inr (.inr (.inr fs))))), ((ad 7), .inl (cC, 40, .inr (.inr (.inr (.inr fc))))), ((ad 8), .inl (cI, 40, .inl hm))]) [0, 4, 5, 6, 7, 8, 1, 2, 3] (by decide) rfl
        have hP : va_P D vwCl ((cX cI cW cC ad st ln G2 fs fc hm (nI sn) kp cm) ++ va_pl PL pf) H := hP
        have hD : va_D A ((cX cI cW cC ad st ln G2 fs fc hm (nI sn) kp cm) ++ va_pl PL pf) := hD
        refine W.eq (g2 := F0 m 23 ls []) rfl ?_
        refine lv_iinc (v := (nI (a + 1))) (lv' := [(1, .int (nI (a + 1))), (0, .ref (ad 0))]) hx hb dX3_present_23 hl (k := 1) rfl ((nI_succ _).symm) (by decide) rfl (fun ls hl => ?_)
        refine lv_goto (tgt := 5) hx hb dX3_present_26 (by decide) ?_
        exact ih5 (a + 1) G2 _ _ ls (by omega) (by omega) (zOK_s (by omega) hka HV (fun j hj => by rw [hG2 j, if_neg (by omega)]) (fun r hr => by rw [hG2, if_pos (by omega), show 256 * a + r - 256 * a = r by omega])) hP hD hS (lv_sub hl [1, 0] rfl)
  exact loop5 ((6 - sn) + 1) sn N _ _ ls (by omega) (by omega) hOK hP hD hS (lv_sub hl [1, 0] rfl)
theorem w_X3_keptState__fieldLink_RX3_27_WordsBeside_states_LWordsBeside_World__935a9c : (.fieldLink RX3 27 "WordsBeside" "states" "[LWordsBeside$World;" : Cond) ∈ wsX3_keptState := by decide +kernel
theorem w_X3_keptState__fieldLink_RX3_31_WordsBeside_kept_I__a1b92e : (.fieldLink RX3 31 "WordsBeside" "kept" "I" : Cond) ∈ wsX3_keptState := by decide +kernel
theorem in_X3_keptState_X3 : ∀ w ∈ wsX30, w ∈ wsX3_keptState := fun _ h => List.mem_cons_of_mem _ (List.mem_append_right _ h)
set_option maxHeartbeats 4000000 in
set_option maxRecDepth 100000 in
theorem c_X3_keptState (l : Launch) (D : va_G) (cI cZ cW cC : ClassId) (ad : Nat → Nat) (st ln N : Nat → Int32) (fs fc : Nat → Option Nat) (hm : Nat → Int32) (se kp cm : Int32) (PL : List Nat) (pf : Nat → va_E) (k : Nat) (hk : k ≤ 30) (ek : kp = nI k) (wo go : Nat → Nat) (Gs : Nat → Nat → Int32) (HW : zPW cI PL pf fs wo go Gs k) (x : Int32) : zq_ro l D cI cZ cW cC yX3_keptState wsX3_keptState ({ frames := 0, cells := 0, slots := 0, locals := 0 } : Room) [.ref (ad 0), .int x] ((cX cI cW cC ad st ln N fs fc hm se kp cm) ++ va_pl PL pf) (fun v => (∃ t, t ≤ k ∧ x = nI t ∧ v = some (.ref (wo t))) ∨ (¬ zr (k + 1) x ∧ v = some .null)) := by
  refine zq_roA (own := RX3) (by decide) rfl rfl (Nat.le_of_ble_eq_true rfl) ?_
  intro p e s m below meth c Q ls hF hP hK hl ret
  obtain ⟨hx, hb, hml, hown, hts⟩ := hF
  have hl : lv_has ls 2 [(0, .ref (ad 0)), (1, .int x)] := hl
  subst ek
  refine lv_iload_n hx hb dX3_keptState_0 rfl (lv_at hl 1 rfl) ?_
  refine lv_if_lt (tgt := 30) hx hb dX3_keptState_1 (by decide) (fun c1 => ?_) (fun c1 => ?_)
  · refine lv_null hx hb dX3_keptState_30 ?_
    exact ret none _ _ (Or.inr ⟨zr_lo c1 (by omega), rfl⟩) dX3_keptState_31
  · obtain ⟨t, ht, rfl⟩ := nI_of c1
    refine lv_iload_n hx hb dX3_keptState_4 rfl (lv_at hl 1 rfl) ?_
    refine lv_aload_n hx hb dX3_keptState_5 rfl (lv_at hl 0 rfl) ?_
    refine zq_get hx hb hts in_X3_keptState_X3 hown hK hP 0 rfl rfl 4 (by decide) (hts _ w_X3_keptState__fieldLink_RX3_31_WordsBeside_kept_I__a1b92e) rfl dX3_keptState_6 ?_
    refine lv_icmp_gt (tgt := 30) hx hb dX3_keptState_9 (by decide) (fun c9 => ?_) (fun c9 => ?_)
    · have h9 := zlt c9
      refine lv_null hx hb dX3_keptState_30 ?_
      exact ret none _ _ (Or.inr ⟨fun q => absurd (zr_lt q ht (by omega)) (by omega), rfl⟩) dX3_keptState_31
    · have h9 := znlt c9
      refine lv_iload_n hx hb dX3_keptState_12 rfl (lv_at hl 1 rfl) ?_
      refine lv_aload_n hx hb dX3_keptState_13 rfl (lv_at hl 0 rfl) ?_
      refine zq_get hx hb hts in_X3_keptState_X3 hown hK hP 0 rfl rfl 3 (by decide) (hts _ w_X3_keptState__fieldLink_RX3_27_WordsBeside_states_LWordsBeside_World__935a9c) rfl dX3_keptState_14 ?_
      refine va_alen hx hb hK.1 hP 6 2 rfl rfl (v := (nI 31)) rfl dX3_keptState_17 ?_
      refine lv_icmp_ge (tgt := 30) hx hb dX3_keptState_18 (by decide) (fun c18 => absurd (zle c18) (by omega)) (fun c18 => ?_)
      refine lv_aload_n hx hb dX3_keptState_21 rfl (lv_at hl 0 rfl) ?_
      refine zq_get hx hb hts in_X3_keptState_X3 hown hK hP 0 rfl rfl 3 (by decide) (hts _ w_X3_keptState__fieldLink_RX3_27_WordsBeside_states_LWordsBeside_World__935a9c) rfl dX3_keptState_22 ?_
      refine lv_iload_n hx hb dX3_keptState_25 rfl (lv_at hl 1 rfl) ?_
      refine zq_aldW hx hb hK hP 6 rfl t rfl (by omega) (by decide) dX3_keptState_26 ?_
      rw [show (fs t) = some (wo t) from (HW t (by omega)).1]
      show W _ _ _ _ _ _ _ _ _ _ _ _ _ _ _ (F0 _ _ _ (.ref (wo t) :: _))
      refine lv_goto (tgt := 31) hx hb dX3_keptState_27 (by decide) ?_
      exact ret (some (wo t)) _ _ (Or.inl ⟨t, by omega, rfl, rfl⟩) dX3_keptState_31
theorem cn_X3_keptState (l : Launch) (D : va_G) (cI cZ cW cC : ClassId) (ad : Nat → Nat) (st ln N : Nat → Int32) (fs fc : Nat → Option Nat) (hm : Nat → Int32) (se kp cm : Int32) (PL : List Nat) (pf : Nat → va_E) (k : Nat) (hk : k ≤ 30) (ek : kp = nI k) (wo go : Nat → Nat) (Gs : Nat → Nat → Int32) (HW : zPW cI PL pf fs wo go Gs k) (t : Nat) (ht : t ≤ k) : zq_ro l D cI cZ cW cC yX3_keptState wsX3_keptState ({ frames := 0, cells := 0, slots := 0, locals := 0 } : Room) [.ref (ad 0), .int (nI t)] ((cX cI cW cC ad st ln N fs fc hm se kp cm) ++ va_pl PL pf) (fun v => v = some (.ref (wo t))) := zq_ro_mono (c_X3_keptState l D cI cZ cW cC ad st ln N fs fc hm se kp cm PL pf k hk ek wo go Gs HW (nI t)) (fun v h => by
  rcases h with ⟨t2, h1, h2, h3⟩ | ⟨h1, h2⟩
  · rw [h3, zeq h2]
  · exact absurd (zr_nI (by omega)) h1)
theorem w_X3_claimAt__fieldLink_RX3_36_WordsBeside_claims_LWordsBeside_Claim__842a06 : (.fieldLink RX3 36 "WordsBeside" "claims" "[LWordsBeside$Claim;" : Cond) ∈ wsX3_claimAt := by decide +kernel
theorem w_X3_claimAt__fieldLink_RX3_40_WordsBeside_came_I__48f8c3 : (.fieldLink RX3 40 "WordsBeside" "came" "I" : Cond) ∈ wsX3_claimAt := by decide +kernel
theorem in_X3_claimAt_X3 : ∀ w ∈ wsX30, w ∈ wsX3_claimAt := fun _ h => List.mem_cons_of_mem _ (List.mem_append_right _ h)
set_option maxHeartbeats 4000000 in
set_option maxRecDepth 100000 in
theorem c_X3_claimAt (l : Launch) (D : va_G) (cI cZ cW cC : ClassId) (ad : Nat → Nat) (st ln N : Nat → Int32) (fs fc : Nat → Option Nat) (hm : Nat → Int32) (se kp cm : Int32) (PL : List Nat) (pf : Nat → va_E) (n : Nat) (hn : n ≤ 40) (en : cm = nI n) (co fo bo : Nat → Nat) (kF fF sF lh mF : Nat → Int32) (HC : zPC PL pf fc co fo bo kF fF sF lh mF n) (x : Int32) : zq_ro l D cI cZ cW cC yX3_claimAt wsX3_claimAt ({ frames := 0, cells := 0, slots := 0, locals := 0 } : Room) [.ref (ad 0), .int x] ((cX cI cW cC ad st ln N fs fc hm se kp cm) ++ va_pl PL pf) (fun v => (∃ i, i < n ∧ x = nI i ∧ v = some (.ref (co i))) ∨ (¬ zr n x ∧ v = some .null)) := by
  refine zq_roA (own := RX3) (by decide) rfl rfl (Nat.le_of_ble_eq_true rfl) ?_
  intro p e s m below meth c Q ls hF hP hK hl ret
  obtain ⟨hx, hb, hml, hown, hts⟩ := hF
  have hl : lv_has ls 2 [(0, .ref (ad 0)), (1, .int x)] := hl
  subst en
  refine lv_iload_n hx hb dX3_claimAt_0 rfl (lv_at hl 1 rfl) ?_
  refine lv_if_lt (tgt := 30) hx hb dX3_claimAt_1 (by decide) (fun c1 => ?_) (fun c1 => ?_)
  · refine lv_null hx hb dX3_claimAt_30 ?_
    exact ret none _ _ (Or.inr ⟨zr_lo c1 (by omega), rfl⟩) dX3_claimAt_31
  · obtain ⟨i, hi, rfl⟩ := nI_of c1
    refine lv_iload_n hx hb dX3_claimAt_4 rfl (lv_at hl 1 rfl) ?_
    refine lv_aload_n hx hb dX3_claimAt_5 rfl (lv_at hl 0 rfl) ?_
    refine zq_get hx hb hts in_X3_claimAt_X3 hown hK hP 0 rfl rfl 6 (by decide) (hts _ w_X3_claimAt__fieldLink_RX3_40_WordsBeside_came_I__48f8c3) rfl dX3_claimAt_6 ?_
    refine lv_icmp_ge (tgt := 30) hx hb dX3_claimAt_9 (by decide) (fun c9 => ?_) (fun c9 => ?_)
    · have h9 := zle c9
      refine lv_null hx hb dX3_claimAt_30 ?_
      exact ret none _ _ (Or.inr ⟨fun q => absurd (zr_lt q hi (by omega)) (by omega), rfl⟩) dX3_claimAt_31
    · have h9 := znle c9
      refine lv_iload_n hx hb dX3_claimAt_12 rfl (lv_at hl 1 rfl) ?_
      refine lv_aload_n hx hb dX3_claimAt_13 rfl (lv_at hl 0 rfl) ?_
      refine zq_get hx hb hts in_X3_claimAt_X3 hown hK hP 0 rfl rfl 5 (by decide) (hts _ w_X3_claimAt__fieldLink_RX3_36_WordsBeside_claims_LWordsBeside_Claim__842a06) rfl dX3_claimAt_14 ?_
      refine va_alen hx hb hK.1 hP 7 3 rfl rfl (v := (nI 40)) rfl dX3_claimAt_17 ?_
      refine lv_icmp_ge (tgt := 30) hx hb dX3_claimAt_18 (by decide) (fun c18 => absurd (zle c18) (by omega)) (fun c18 => ?_)
      refine lv_aload_n hx hb dX3_claimAt_21 rfl (lv_at hl 0 rfl) ?_
      refine zq_get hx hb hts in_X3_claimAt_X3 hown hK hP 0 rfl rfl 5 (by decide) (hts _ w_X3_claimAt__fieldLink_RX3_36_WordsBeside_claims_LWordsBeside_Claim__842a06) rfl dX3_claimAt_22 ?_
      refine lv_iload_n hx hb dX3_claimAt_25 rfl (lv_at hl 1 rfl) ?_
      refine zq_aldC hx hb hK hP 7 rfl i rfl (by omega) (by decide) dX3_claimAt_26 ?_
      rw [show (fc i) = some (co i) from (HC.1 i (by omega)).1]
      show W _ _ _ _ _ _ _ _ _ _ _ _ _ _ _ (F0 _ _ _ (.ref (co i) :: _))
      refine lv_goto (tgt := 31) hx hb dX3_claimAt_27 (by decide) ?_
      exact ret (some (co i)) _ _ (Or.inl ⟨i, by omega, rfl, rfl⟩) dX3_claimAt_31
theorem w_X3_standing__fieldLink_RX3_92_WordsBeside_Claim_lastHeld_I__f6b92d : (.fieldLink RX3 92 "WordsBeside$Claim" "lastHeld" "I" : Cond) ∈ wsX3_standing := by decide +kernel
theorem in_X3_standing_X0 : ∀ w ∈ wsX00, w ∈ wsX3_standing := fun _ h => List.mem_cons_of_mem _ (List.mem_append_left _ (List.mem_append_right _ h))
set_option maxHeartbeats 4000000 in
set_option maxRecDepth 100000 in
theorem c_X3_standing (l : Launch) (D : va_G) (cI cZ cW cC : ClassId) (co w g : Nat) (G : Nat → Int32) (f : Nat) (hf : f < 6) (kd p1 q1 bn lh mk : Int32) : zq_ro l D cI cZ cW cC yX3_standing wsX3_standing ({ frames := 4, cells := 0, slots := 0, locals := 92 } : Room) [.ref co, .ref w] [(co, .inr (0, [.int (nI f), .int kd, .int p1, .int q1, .int bn, .int lh, .int mk])), (w, .inr (2, [.ref g])), (g, .inl (cI, 1536, .inl G))] (fun v => v = some (.int (zstd (zheld (zden G f kd p1 q1)) lh))) := by
  refine zq_roI (own := RX3) (by decide) rfl rfl (Nat.le_of_ble_eq_true rfl) ?_
  intro p e s m below meth c Q ls hF hP hK hl ret
  obtain ⟨hx, hb, hml, hown, hts⟩ := hF
  have hl : lv_has ls 2 [(0, .ref co), (1, .ref w)] := hl
  refine lv_aload_n hx hb dX3_standing_0 rfl (lv_at hl 0 rfl) ?_
  refine lv_aload_n hx hb dX3_standing_1 rfl (lv_at hl 1 rfl) ?_
  refine zq_cV (rest := []) ⟨hx, hb, hml, hown, hts⟩ (c_X0_isHeldIn l D cI cZ cW cC co w g G f hf kd p1 q1 bn lh mk) (cwV 1 hts gX3_standing_X0_isHeldIn rfl rfl rfl (by decide +kernel) ⟨Nat.le_of_ble_eq_true rfl, Nat.le_of_ble_eq_true rfl⟩) hK hP 0 0 rfl rfl rfl hl.1 rfl (Nat.le_of_ble_eq_true rfl) dX3_standing_2 ⟨Nat.le_of_ble_eq_true rfl, Nat.le_of_ble_eq_true rfl⟩ (fun v hv => ?_)
  obtain rfl := hv
  refine W.eq (g2 := F0 m 5 ls [.int (if zheld (zden G f kd p1 q1) then (1 : Int32) else 0)]) rfl ?_
  refine lv_if_eq (tgt := 10) hx hb dX3_standing_5 (by decide) (fun c5 => ?_) (fun c5 => ?_)
  · refine lv_aload_n hx hb dX3_standing_10 rfl (lv_at hl 0 rfl) ?_
    refine zq_get hx hb hts in_X3_standing_X0 hown hK hP 0 rfl rfl 5 (by decide) (hts _ w_X3_standing__fieldLink_RX3_92_WordsBeside_Claim_lastHeld_I__f6b92d) rfl dX3_standing_11 ?_
    refine lv_iconst (v := (-1 : Int32)) hx hb dX3_standing_14 (by decide) ?_
    refine lv_icmp_ne (tgt := 22) hx hb dX3_standing_15 (by decide) (fun c15 => ?_) (fun c15 => ?_)
    · refine lv_iconst (v := (2 : Int32)) hx hb dX3_standing_22 (by decide) ?_
      exact ret _ _ _ (by rw [zct_bb c5]; simp [zstd, c15]) dX3_standing_23
    · refine lv_iconst (v := (1 : Int32)) hx hb dX3_standing_18 (by decide) ?_
      refine lv_goto (tgt := 23) hx hb dX3_standing_19 (by decide) ?_
      exact ret _ _ _ (by rw [zct_bb c5]; simp [zstd, c15]) dX3_standing_23
  · refine lv_iconst (v := (0 : Int32)) hx hb dX3_standing_8 (by decide) ?_
    exact ret _ _ _ (by rw [zct_aa c5]; rfl) dX3_standing_9
