theorem w_X4_canBe__fieldLink_RX4_13_WordsBesideModel_steps_I__04b4b3 : (.fieldLink RX4 13 "WordsBesideModel" "steps" "[I" : Cond) ∈ wsX4_canBe := by decide +kernel
theorem w_X4_canBe__fieldLink_RX4_9_WordsBesideModel_longs_I__8385b9 : (.fieldLink RX4 9 "WordsBesideModel" "longs" "[I" : Cond) ∈ wsX4_canBe := by decide +kernel
theorem in_X4_canBe_X4 : ∀ w ∈ wsX40, w ∈ wsX4_canBe := fun _ h => List.mem_cons_of_mem _ (List.mem_append_right _ h)
set_option maxHeartbeats 4000000 in
set_option maxRecDepth 100000 in
theorem c_X4_canBe (l : Launch) (D : va_G) (cI cZ cW cC : ClassId) (ad : Nat → Nat) (ln st gv oF kF fF sF bF mF hF : Nat → Int32) (kp cm m1 m2 : Int32) (L : Nat → Nat) (HL : zHL ln L) (f : Nat) (hf : f < 6) (pl x : Int32) : zq_ro l D cI cZ cW cC yX4_canBe wsX4_canBe ({ frames := 0, cells := 0, slots := 0, locals := 0 } : Room) [.ref (ad 0), .int (nI f), .int pl, .int x] (mW cI cZ ad ln st gv oF kF fF sF bF mF hF kp cm m1 m2) (fun v => v = some (.int (if zcan st f (L f) pl x then 1 else 0))) := by
  refine zq_roZ (own := RX4) (by decide) rfl rfl (Nat.le_of_ble_eq_true rfl) ?_
  intro p e s m below meth c Q ls hF hP hK hl ret
  obtain ⟨hx, hb, hml, hown, hts⟩ := hF
  have hl : lv_has ls 8 [(0, .ref (ad 0)), (1, .int (nI f)), (2, .int pl), (3, .int x)] := hl
  obtain ⟨eL, hL⟩ := HL f hf
  refine lv_iload_n hx hb dX4_canBe_0 rfl (lv_at hl 3 rfl) ?_
  refine lv_sipush (v := (nI 1000)) hx hb dX4_canBe_1 (by decide) ?_
  refine lv_idiv hx hb dX4_canBe_4 (nI_ne0 (by omega) (by omega)) ?_
  refine lv_istore (lv' := [(4, .int (x / (nI 1000))), (0, .ref (ad 0)), (1, .int (nI f)), (2, .int pl), (3, .int x)]) hx hb dX4_canBe_5 hl (by decide) rfl (fun ls hl => ?_)
  refine lv_iload_n hx hb dX4_canBe_7 rfl (lv_at hl 4 rfl) ?_
  refine lv_sipush (v := (nI 1000)) hx hb dX4_canBe_8 (by decide) ?_
  refine lv_irem hx hb dX4_canBe_11 (nI_ne0 (by omega) (by omega)) ?_
  refine lv_istore (lv' := [(5, .int (x - x / (nI 1000) * (nI 1000))), (4, .int (x / (nI 1000))), (0, .ref (ad 0)), (1, .int (nI f)), (2, .int pl), (3, .int x)]) hx hb dX4_canBe_12 hl (by decide) rfl (fun ls hl => ?_)
  refine lv_iload_n hx hb dX4_canBe_14 rfl (lv_at hl 5 rfl) ?_
  refine lv_if_lt (tgt := 50) hx hb dX4_canBe_15 (by decide) (fun c15 => ?_) (fun c15 => ?_)
  · refine lv_iconst (v := (0 : Int32)) hx hb dX4_canBe_50 (by decide) ?_
    exact ret _ _ _ (Or.inl rfl) (by simp [zcan, c15]) dX4_canBe_51
  · obtain ⟨xn, hxn, rfl⟩ := nI_of c15
    rw [pk_rem hxn (by omega) (by omega), pk_div hxn (by omega) (by omega)] at hl
    refine lv_iload hx hb dX4_canBe_18 (lv_at hl 1 rfl) ?_
    refine lv_bipush (v := (nI 10)) hx hb dX4_canBe_20 (by decide) ?_
    refine lv_icmp_gt (tgt := 50) hx hb dX4_canBe_22 (by decide) (fun c22 => ?_) (fun c22 => ?_)
    · have h22 := zlt c22
      refine lv_iconst (v := (0 : Int32)) hx hb dX4_canBe_50 (by decide) ?_
      exact ret _ _ _ (Or.inl rfl) (by simp [zcan, nI_clamp hxn, c15] <;> omega) dX4_canBe_51
    · have h22 := znlt c22
      refine lv_iload hx hb dX4_canBe_25 (lv_at hl 1 rfl) ?_
      refine lv_bipush (v := (nI 9)) hx hb dX4_canBe_27 (by decide) ?_
      refine lv_icmp_ne (tgt := 38) hx hb dX4_canBe_29 (by decide) (fun c29 => ?_) (fun c29 => ?_)
      · have h29 := zne c29
        refine lv_iload hx hb dX4_canBe_38 (lv_at hl 1 rfl) ?_
        refine lv_bipush (v := (nI 10)) hx hb dX4_canBe_40 (by decide) ?_
        refine lv_icmp_ne (tgt := 52) hx hb dX4_canBe_42 (by decide) (fun c42 => ?_) (fun c42 => ?_)
        · have h42 := zne c42
          refine lv_iload hx hb dX4_canBe_52 (lv_at hl 1 rfl) ?_
          refine lv_bipush (v := (nI 9)) hx hb dX4_canBe_54 (by decide) ?_
          refine lv_icmp_ne (tgt := 63) hx hb dX4_canBe_56 (by decide) (fun c56 => ?_) (fun c56 => absurd (zeq c56) h29)
          refine lv_iconst (v := (0 : Int32)) hx hb dX4_canBe_63 (by decide) ?_
          refine lv_istore (lv' := [(6, .int (0 : Int32)), (5, .int (nI (xn % 1000))), (4, .int (nI (xn / 1000))), (0, .ref (ad 0)), (1, .int (nI f)), (2, .int pl), (3, .int (nI xn))]) hx hb dX4_canBe_64 hl (by decide) rfl (fun ls hl => ?_)
          refine lv_iconst (v := (0 : Int32)) hx hb dX4_canBe_66 (by decide) ?_
          refine lv_istore (lv' := [(7, .int (nI 0)), (6, .int (nI 0)), (5, .int (nI (xn % 1000))), (4, .int (nI (xn / 1000))), (0, .ref (ad 0)), (1, .int (nI f)), (2, .int pl), (3, .int (nI xn))]) hx hb dX4_canBe_67 hl (by decide) rfl (fun ls hl => ?_)
          have loop69 : ∀ (fu69 : Nat) (j a : Nat) (ls : Array Slot), (L f - j) < fu69 → (j ≤ L f) → (a = 0 + fb_ct (zin st f pl) j) → lv_has ls 8 [(0, .ref (ad 0)), (1, .int (nI f)), (2, .int pl), (4, .int (nI (xn / 1000))), (6, .int (nI a)), (7, .int (nI j))] → W p l e ({ frames := 0, cells := 0, slots := 0, locals := 0 } : Room) s m ([.ref (ad 0), .int (nI f), .int pl, .int (nI xn)] : List Value).toArray below meth c s.heap [] 0 0 Q (F0 m 69 ls []) := by
            intro fu69
            induction fu69 with
            | zero => intro _ _ _ hmu; exact absurd hmu (Nat.not_lt_zero _)
            | succ fu69 ih69 =>
              intro j a ls hmu69 hj ea hl
              have hfb := fb_ct_le (zin st f pl) j
              refine lv_iload hx hb dX4_canBe_69 (lv_at hl 5 rfl) ?_
              refine lv_aload_n hx hb dX4_canBe_71 rfl (lv_at hl 0 rfl) ?_
              refine zq_get hx hb hts in_X4_canBe_X4 hown hK hP 0 rfl rfl 0 (by decide) (hts _ w_X4_canBe__fieldLink_RX4_9_WordsBesideModel_longs_I__8385b9) rfl dX4_canBe_72 ?_
              refine lv_iload_n hx hb dX4_canBe_75 rfl (lv_at hl 1 rfl) ?_
              refine zq_ild hx hb hK hP 1 rfl f rfl (by omega) (by decide) dX4_canBe_76 ?_
              refine zq_te (y := (nI (L f))) eL ?_
              refine lv_icmp_ge (tgt := 123) hx hb dX4_canBe_77 (by decide) (fun c77 => ?_) (fun c77 => ?_)
              · have h77 := zle c77
                refine lv_iload hx hb dX4_canBe_123 (lv_at hl 3 rfl) ?_
                refine lv_bipush (v := (nI 9)) hx hb dX4_canBe_125 (by decide) ?_
                refine lv_icmp_ne (tgt := 136) hx hb dX4_canBe_127 (by decide) (fun c127 => ?_) (fun c127 => absurd (zeq c127) h29)
                refine lv_iconst (v := (1 : Int32)) hx hb dX4_canBe_136 (by decide) ?_
                refine lv_goto (tgt := 141) hx hb dX4_canBe_137 (by decide) ?_
                exact ret _ _ _ (Or.inr rfl) (by have hj2 : j = L f := (by omega); rw [hj2] at ea; simp [zcan, nI_clamp hxn, c15] <;> omega) dX4_canBe_141
              · have h77 := znle c77
                refine lv_iload hx hb dX4_canBe_80 (lv_at hl 4 rfl) ?_
                refine lv_iload hx hb dX4_canBe_82 (lv_at hl 5 rfl) ?_
                refine lv_iload_n hx hb dX4_canBe_84 rfl (lv_at hl 2 rfl) ?_
                refine lv_icmp_eq (tgt := 113) hx hb dX4_canBe_85 (by decide) (fun c85 => ?_) (fun c85 => ?_)
                · refine lv_iconst (v := (0 : Int32)) hx hb dX4_canBe_113 (by decide) ?_
                  refine lv_iadd hx hb dX4_canBe_114 ?_
                  refine zq_te (y := (nI a)) (Int32.add_zero _) ?_
                  refine lv_istore (lv' := [(6, .int (nI a)), (0, .ref (ad 0)), (1, .int (nI f)), (2, .int pl), (4, .int (nI (xn / 1000))), (7, .int (nI j))]) hx hb dX4_canBe_115 hl (by decide) rfl (fun ls hl => ?_)
                  refine lv_iinc (v := (nI (j + 1))) (lv' := [(7, .int (nI (j + 1))), (6, .int (nI a)), (0, .ref (ad 0)), (1, .int (nI f)), (2, .int pl), (4, .int (nI (xn / 1000)))]) hx hb dX4_canBe_117 hl (k := 5) rfl ((nI_succ _).symm) (by decide) rfl (fun ls hl => ?_)
                  refine lv_goto (tgt := 69) hx hb dX4_canBe_120 (by decide) ?_
                  exact ih69 (j + 1) a ls (by omega) (by omega) (by rw [fb_ct_succ, if_neg (by simp [zin, c85]), Nat.add_zero, ea]) (lv_sub hl [2, 3, 4, 5, 1, 0] rfl)
                · refine lv_aload_n hx hb dX4_canBe_88 rfl (lv_at hl 0 rfl) ?_
                  refine zq_get hx hb hts in_X4_canBe_X4 hown hK hP 0 rfl rfl 1 (by decide) (hts _ w_X4_canBe__fieldLink_RX4_13_WordsBesideModel_steps_I__04b4b3) rfl dX4_canBe_89 ?_
                  refine lv_bipush (v := (nI 12)) hx hb dX4_canBe_92 (by decide) ?_
                  refine lv_iload_n hx hb dX4_canBe_94 rfl (lv_at hl 1 rfl) ?_
                  refine lv_imul hx hb dX4_canBe_95 ?_
                  refine lv_iload hx hb dX4_canBe_96 (lv_at hl 5 rfl) ?_
                  refine lv_iadd hx hb dX4_canBe_98 ?_
                  refine zq_ild hx hb hK hP 2 rfl (12 * f + j) (by simp only [pk_mul, nI_add] <;> (congr 1; omega)) (by omega) (by decide) dX4_canBe_99 ?_
                  refine lv_sipush (v := (nI 1000)) hx hb dX4_canBe_100 (by decide) ?_
                  refine lv_idiv hx hb dX4_canBe_103 (nI_ne0 (by omega) (by omega)) ?_
                  refine lv_bipush (v := (nI 9)) hx hb dX4_canBe_104 (by decide) ?_
                  refine lv_icmp_ne (tgt := 113) hx hb dX4_canBe_106 (by decide) (fun c106 => ?_) (fun c106 => ?_)
                  · refine lv_iconst (v := (0 : Int32)) hx hb dX4_canBe_113 (by decide) ?_
                    refine lv_iadd hx hb dX4_canBe_114 ?_
                    refine zq_te (y := (nI a)) (Int32.add_zero _) ?_
                    refine lv_istore (lv' := [(6, .int (nI a)), (0, .ref (ad 0)), (1, .int (nI f)), (2, .int pl), (4, .int (nI (xn / 1000))), (7, .int (nI j))]) hx hb dX4_canBe_115 hl (by decide) rfl (fun ls hl => ?_)
                    refine lv_iinc (v := (nI (j + 1))) (lv' := [(7, .int (nI (j + 1))), (6, .int (nI a)), (0, .ref (ad 0)), (1, .int (nI f)), (2, .int pl), (4, .int (nI (xn / 1000)))]) hx hb dX4_canBe_117 hl (k := 5) rfl ((nI_succ _).symm) (by decide) rfl (fun ls hl => ?_)
                    refine lv_goto (tgt := 69) hx hb dX4_canBe_120 (by decide) ?_
                    exact ih69 (j + 1) a ls (by omega) (by omega) (by rw [fb_ct_succ, if_neg (by simp [zin, c106]), Nat.add_zero, ea]) (lv_sub hl [2, 3, 4, 5, 1, 0] rfl)
                  · refine lv_iconst (v := (1 : Int32)) hx hb dX4_canBe_109 (by decide) ?_
                    refine lv_goto (tgt := 114) hx hb dX4_canBe_110 (by decide) ?_
                    refine lv_iadd hx hb dX4_canBe_114 ?_
                    refine zq_te (y := (nI (a + 1))) (nI_1 _) ?_
                    refine lv_istore (lv' := [(6, .int (nI (a + 1))), (0, .ref (ad 0)), (1, .int (nI f)), (2, .int pl), (4, .int (nI (xn / 1000))), (7, .int (nI j))]) hx hb dX4_canBe_115 hl (by decide) rfl (fun ls hl => ?_)
                    refine lv_iinc (v := (nI (j + 1))) (lv' := [(7, .int (nI (j + 1))), (6, .int (nI (a + 1))), (0, .ref (ad 0)), (1, .int (nI f)), (2, .int pl), (4, .int (nI (xn / 1000)))]) hx hb dX4_canBe_117 hl (k := 5) rfl ((nI_succ _).symm) (by decide) rfl (fun ls hl => ?_)
                    refine lv_goto (tgt := 69) hx hb dX4_canBe_120 (by decide) ?_
                    exact ih69 (j + 1) (a + 1) ls (by omega) (by omega) (by rw [fb_ct_succ, if_pos (by simp [zin, c85, c106]), ← Nat.add_assoc, ea]) (lv_sub hl [2, 3, 4, 5, 1, 0] rfl)
          exact loop69 ((L f) + 1) 0 0 ls (by omega) (by omega) rfl (lv_sub hl [4, 5, 6, 3, 1, 0] rfl)
        · have h42 := zeq c42
          refine lv_iload hx hb dX4_canBe_45 (lv_at hl 0 rfl) ?_
          refine lv_if_ne (tgt := 52) hx hb dX4_canBe_47 (by decide) (fun c47 => ?_) (fun c47 => ?_)
          · have h47 : xn % 1000 ≠ 0 := fun q => c47 (by rw [q]; rfl)
            refine lv_iload hx hb dX4_canBe_52 (lv_at hl 1 rfl) ?_
            refine lv_bipush (v := (nI 9)) hx hb dX4_canBe_54 (by decide) ?_
            refine lv_icmp_ne (tgt := 63) hx hb dX4_canBe_56 (by decide) (fun c56 => ?_) (fun c56 => absurd (zeq c56) h29)
            refine lv_iconst (v := (0 : Int32)) hx hb dX4_canBe_63 (by decide) ?_
            refine lv_istore (lv' := [(6, .int (0 : Int32)), (5, .int (nI (xn % 1000))), (4, .int (nI (xn / 1000))), (0, .ref (ad 0)), (1, .int (nI f)), (2, .int pl), (3, .int (nI xn))]) hx hb dX4_canBe_64 hl (by decide) rfl (fun ls hl => ?_)
            refine lv_iconst (v := (0 : Int32)) hx hb dX4_canBe_66 (by decide) ?_
            refine lv_istore (lv' := [(7, .int (nI 0)), (6, .int (nI 0)), (5, .int (nI (xn % 1000))), (4, .int (nI (xn / 1000))), (0, .ref (ad 0)), (1, .int (nI f)), (2, .int pl), (3, .int (nI xn))]) hx hb dX4_canBe_67 hl (by decide) rfl (fun ls hl => ?_)
            have loop69 : ∀ (fu69 : Nat) (j a : Nat) (ls : Array Slot), (L f - j) < fu69 → (j ≤ L f) → (a = 0 + fb_ct (zin st f pl) j) → lv_has ls 8 [(0, .ref (ad 0)), (1, .int (nI f)), (2, .int pl), (4, .int (nI (xn / 1000))), (6, .int (nI a)), (7, .int (nI j))] → W p l e ({ frames := 0, cells := 0, slots := 0, locals := 0 } : Room) s m ([.ref (ad 0), .int (nI f), .int pl, .int (nI xn)] : List Value).toArray below meth c s.heap [] 0 0 Q (F0 m 69 ls []) := by
              intro fu69
              induction fu69 with
              | zero => intro _ _ _ hmu; exact absurd hmu (Nat.not_lt_zero _)
              | succ fu69 ih69 =>
                intro j a ls hmu69 hj ea hl
                have hfb := fb_ct_le (zin st f pl) j
                refine lv_iload hx hb dX4_canBe_69 (lv_at hl 5 rfl) ?_
                refine lv_aload_n hx hb dX4_canBe_71 rfl (lv_at hl 0 rfl) ?_
                refine zq_get hx hb hts in_X4_canBe_X4 hown hK hP 0 rfl rfl 0 (by decide) (hts _ w_X4_canBe__fieldLink_RX4_9_WordsBesideModel_longs_I__8385b9) rfl dX4_canBe_72 ?_
                refine lv_iload_n hx hb dX4_canBe_75 rfl (lv_at hl 1 rfl) ?_
                refine zq_ild hx hb hK hP 1 rfl f rfl (by omega) (by decide) dX4_canBe_76 ?_
                refine zq_te (y := (nI (L f))) eL ?_
                refine lv_icmp_ge (tgt := 123) hx hb dX4_canBe_77 (by decide) (fun c77 => ?_) (fun c77 => ?_)
                · have h77 := zle c77
                  refine lv_iload hx hb dX4_canBe_123 (lv_at hl 3 rfl) ?_
                  refine lv_bipush (v := (nI 9)) hx hb dX4_canBe_125 (by decide) ?_
                  refine lv_icmp_ne (tgt := 136) hx hb dX4_canBe_127 (by decide) (fun c127 => ?_) (fun c127 => absurd (zeq c127) h29)
                  refine lv_iconst (v := (1 : Int32)) hx hb dX4_canBe_136 (by decide) ?_
                  refine lv_goto (tgt := 141) hx hb dX4_canBe_137 (by decide) ?_
                  exact ret _ _ _ (Or.inr rfl) (by have hj2 : j = L f := (by omega); rw [hj2] at ea; simp [zcan, nI_clamp hxn, c15] <;> omega) dX4_canBe_141
                · have h77 := znle c77
                  refine lv_iload hx hb dX4_canBe_80 (lv_at hl 4 rfl) ?_
                  refine lv_iload hx hb dX4_canBe_82 (lv_at hl 5 rfl) ?_
                  refine lv_iload_n hx hb dX4_canBe_84 rfl (lv_at hl 2 rfl) ?_
                  refine lv_icmp_eq (tgt := 113) hx hb dX4_canBe_85 (by decide) (fun c85 => ?_) (fun c85 => ?_)
                  · refine lv_iconst (v := (0 : Int32)) hx hb dX4_canBe_113 (by decide) ?_
                    refine lv_iadd hx hb dX4_canBe_114 ?_
                    refine zq_te (y := (nI a)) (Int32.add_zero _) ?_
                    refine lv_istore (lv' := [(6, .int (nI a)), (0, .ref (ad 0)), (1, .int (nI f)), (2, .int pl), (4, .int (nI (xn / 1000))), (7, .int (nI j))]) hx hb dX4_canBe_115 hl (by decide) rfl (fun ls hl => ?_)
                    refine lv_iinc (v := (nI (j + 1))) (lv' := [(7, .int (nI (j + 1))), (6, .int (nI a)), (0, .ref (ad 0)), (1, .int (nI f)), (2, .int pl), (4, .int (nI (xn / 1000)))]) hx hb dX4_canBe_117 hl (k := 5) rfl ((nI_succ _).symm) (by decide) rfl (fun ls hl => ?_)
                    refine lv_goto (tgt := 69) hx hb dX4_canBe_120 (by decide) ?_
                    exact ih69 (j + 1) a ls (by omega) (by omega) (by rw [fb_ct_succ, if_neg (by simp [zin, c85]), Nat.add_zero, ea]) (lv_sub hl [2, 3, 4, 5, 1, 0] rfl)
                  · refine lv_aload_n hx hb dX4_canBe_88 rfl (lv_at hl 0 rfl) ?_
                    refine zq_get hx hb hts in_X4_canBe_X4 hown hK hP 0 rfl rfl 1 (by decide) (hts _ w_X4_canBe__fieldLink_RX4_13_WordsBesideModel_steps_I__04b4b3) rfl dX4_canBe_89 ?_
                    refine lv_bipush (v := (nI 12)) hx hb dX4_canBe_92 (by decide) ?_
                    refine lv_iload_n hx hb dX4_canBe_94 rfl (lv_at hl 1 rfl) ?_
                    refine lv_imul hx hb dX4_canBe_95 ?_
                    refine lv_iload hx hb dX4_canBe_96 (lv_at hl 5 rfl) ?_
                    refine lv_iadd hx hb dX4_canBe_98 ?_
                    refine zq_ild hx hb hK hP 2 rfl (12 * f + j) (by simp only [pk_mul, nI_add] <;> (congr 1; omega)) (by omega) (by decide) dX4_canBe_99 ?_
                    refine lv_sipush (v := (nI 1000)) hx hb dX4_canBe_100 (by decide) ?_
                    refine lv_idiv hx hb dX4_canBe_103 (nI_ne0 (by omega) (by omega)) ?_
                    refine lv_bipush (v := (nI 9)) hx hb dX4_canBe_104 (by decide) ?_
                    refine lv_icmp_ne (tgt := 113) hx hb dX4_canBe_106 (by decide) (fun c106 => ?_) (fun c106 => ?_)
                    · refine lv_iconst (v := (0 : Int32)) hx hb dX4_canBe_113 (by decide) ?_
                      refine lv_iadd hx hb dX4_canBe_114 ?_
                      refine zq_te (y := (nI a)) (Int32.add_zero _) ?_
                      refine lv_istore (lv' := [(6, .int (nI a)), (0, .ref (ad 0)), (1, .int (nI f)), (2, .int pl), (4, .int (nI (xn / 1000))), (7, .int (nI j))]) hx hb dX4_canBe_115 hl (by decide) rfl (fun ls hl => ?_)
                      refine lv_iinc (v := (nI (j + 1))) (lv' := [(7, .int (nI (j + 1))), (6, .int (nI a)), (0, .ref (ad 0)), (1, .int (nI f)), (2, .int pl), (4, .int (nI (xn / 1000)))]) hx hb dX4_canBe_117 hl (k := 5) rfl ((nI_succ _).symm) (by decide) rfl (fun ls hl => ?_)
                      refine lv_goto (tgt := 69) hx hb dX4_canBe_120 (by decide) ?_
                      exact ih69 (j + 1) a ls (by omega) (by omega) (by rw [fb_ct_succ, if_neg (by simp [zin, c106]), Nat.add_zero, ea]) (lv_sub hl [2, 3, 4, 5, 1, 0] rfl)
                    · refine lv_iconst (v := (1 : Int32)) hx hb dX4_canBe_109 (by decide) ?_
                      refine lv_goto (tgt := 114) hx hb dX4_canBe_110 (by decide) ?_
                      refine lv_iadd hx hb dX4_canBe_114 ?_
                      refine zq_te (y := (nI (a + 1))) (nI_1 _) ?_
                      refine lv_istore (lv' := [(6, .int (nI (a + 1))), (0, .ref (ad 0)), (1, .int (nI f)), (2, .int pl), (4, .int (nI (xn / 1000))), (7, .int (nI j))]) hx hb dX4_canBe_115 hl (by decide) rfl (fun ls hl => ?_)
                      refine lv_iinc (v := (nI (j + 1))) (lv' := [(7, .int (nI (j + 1))), (6, .int (nI (a + 1))), (0, .ref (ad 0)), (1, .int (nI f)), (2, .int pl), (4, .int (nI (xn / 1000)))]) hx hb dX4_canBe_117 hl (k := 5) rfl ((nI_succ _).symm) (by decide) rfl (fun ls hl => ?_)
                      refine lv_goto (tgt := 69) hx hb dX4_canBe_120 (by decide) ?_
                      exact ih69 (j + 1) (a + 1) ls (by omega) (by omega) (by rw [fb_ct_succ, if_pos (by simp [zin, c85, c106]), ← Nat.add_assoc, ea]) (lv_sub hl [2, 3, 4, 5, 1, 0] rfl)
            exact loop69 ((L f) + 1) 0 0 ls (by omega) (by omega) rfl (lv_sub hl [4, 5, 6, 3, 1, 0] rfl)
          · have h47 : xn % 1000 = 0 := zeq (c47.trans nI_0.symm)
            refine lv_iconst (v := (0 : Int32)) hx hb dX4_canBe_50 (by decide) ?_
            exact ret _ _ _ (Or.inl rfl) (by simp [zcan, nI_clamp hxn, c15] <;> omega) dX4_canBe_51
      · have h29 := zeq c29
        refine lv_iload hx hb dX4_canBe_32 (lv_at hl 0 rfl) ?_
        refine lv_iload_n hx hb dX4_canBe_34 rfl (lv_at hl 3 rfl) ?_
        refine lv_icmp_ge (tgt := 50) hx hb dX4_canBe_35 (by decide) (fun c35 => ?_) (fun c35 => ?_)
        · have h35 := zle c35
          refine lv_iconst (v := (0 : Int32)) hx hb dX4_canBe_50 (by decide) ?_
          exact ret _ _ _ (Or.inl rfl) (by simp [zcan, nI_clamp hxn, c15] <;> omega) dX4_canBe_51
        · have h35 := znle c35
          refine lv_iload hx hb dX4_canBe_38 (lv_at hl 1 rfl) ?_
          refine lv_bipush (v := (nI 10)) hx hb dX4_canBe_40 (by decide) ?_
          refine lv_icmp_ne (tgt := 52) hx hb dX4_canBe_42 (by decide) (fun c42 => ?_) (fun c42 => absurd (zeq c42) (by omega))
          refine lv_iload hx hb dX4_canBe_52 (lv_at hl 1 rfl) ?_
          refine lv_bipush (v := (nI 9)) hx hb dX4_canBe_54 (by decide) ?_
          refine lv_icmp_ne (tgt := 63) hx hb dX4_canBe_56 (by decide) (fun c56 => absurd (congrArg nI h29) c56) (fun c56 => ?_)
          refine lv_iconst (v := (1 : Int32)) hx hb dX4_canBe_59 (by decide) ?_
          refine lv_goto (tgt := 64) hx hb dX4_canBe_60 (by decide) ?_
          refine lv_istore (lv' := [(6, .int (1 : Int32)), (5, .int (nI (xn % 1000))), (4, .int (nI (xn / 1000))), (0, .ref (ad 0)), (1, .int (nI f)), (2, .int pl), (3, .int (nI xn))]) hx hb dX4_canBe_64 hl (by decide) rfl (fun ls hl => ?_)
          refine lv_iconst (v := (0 : Int32)) hx hb dX4_canBe_66 (by decide) ?_
          refine lv_istore (lv' := [(7, .int (nI 0)), (6, .int (1 : Int32)), (5, .int (nI (xn % 1000))), (4, .int (nI (xn / 1000))), (0, .ref (ad 0)), (1, .int (nI f)), (2, .int pl), (3, .int (nI xn))]) hx hb dX4_canBe_67 hl (by decide) rfl (fun ls hl => ?_)
          have loop69 : ∀ (fu69 : Nat) (j a : Nat) (ls : Array Slot), (L f - j) < fu69 → (j ≤ L f) → (a = 1 + fb_ct (zin st f pl) j) → lv_has ls 8 [(0, .ref (ad 0)), (1, .int (nI f)), (2, .int pl), (4, .int (nI (xn / 1000))), (6, .int (nI a)), (7, .int (nI j))] → W p l e ({ frames := 0, cells := 0, slots := 0, locals := 0 } : Room) s m ([.ref (ad 0), .int (nI f), .int pl, .int (nI xn)] : List Value).toArray below meth c s.heap [] 0 0 Q (F0 m 69 ls []) := by
            intro fu69
            induction fu69 with
            | zero => intro _ _ _ hmu; exact absurd hmu (Nat.not_lt_zero _)
            | succ fu69 ih69 =>
              intro j a ls hmu69 hj ea hl
              have hfb := fb_ct_le (zin st f pl) j
              refine lv_iload hx hb dX4_canBe_69 (lv_at hl 5 rfl) ?_
              refine lv_aload_n hx hb dX4_canBe_71 rfl (lv_at hl 0 rfl) ?_
              refine zq_get hx hb hts in_X4_canBe_X4 hown hK hP 0 rfl rfl 0 (by decide) (hts _ w_X4_canBe__fieldLink_RX4_9_WordsBesideModel_longs_I__8385b9) rfl dX4_canBe_72 ?_
              refine lv_iload_n hx hb dX4_canBe_75 rfl (lv_at hl 1 rfl) ?_
              refine zq_ild hx hb hK hP 1 rfl f rfl (by omega) (by decide) dX4_canBe_76 ?_
              refine zq_te (y := (nI (L f))) eL ?_
              refine lv_icmp_ge (tgt := 123) hx hb dX4_canBe_77 (by decide) (fun c77 => ?_) (fun c77 => ?_)
              · have h77 := zle c77
                refine lv_iload hx hb dX4_canBe_123 (lv_at hl 3 rfl) ?_
                refine lv_bipush (v := (nI 9)) hx hb dX4_canBe_125 (by decide) ?_
                refine lv_icmp_ne (tgt := 136) hx hb dX4_canBe_127 (by decide) (fun c127 => absurd (congrArg nI h29) c127) (fun c127 => ?_)
                refine lv_iload hx hb dX4_canBe_130 (lv_at hl 4 rfl) ?_
                refine lv_iconst (v := (nI 2)) hx hb dX4_canBe_132 (by decide) ?_
                refine lv_icmp_gt (tgt := 140) hx hb dX4_canBe_133 (by decide) (fun c133 => ?_) (fun c133 => ?_)
                · have h133 := zlt c133
                  refine lv_iconst (v := (0 : Int32)) hx hb dX4_canBe_140 (by decide) ?_
                  exact ret _ _ _ (Or.inl rfl) (by have hj2 : j = L f := (by omega); rw [hj2] at ea; simp [zcan, nI_clamp hxn, c15] <;> omega) dX4_canBe_141
                · have h133 := znlt c133
                  refine lv_iconst (v := (1 : Int32)) hx hb dX4_canBe_136 (by decide) ?_
                  refine lv_goto (tgt := 141) hx hb dX4_canBe_137 (by decide) ?_
                  exact ret _ _ _ (Or.inr rfl) (by have hj2 : j = L f := (by omega); rw [hj2] at ea; simp [zcan, nI_clamp hxn, c15] <;> omega) dX4_canBe_141
              · have h77 := znle c77
                refine lv_iload hx hb dX4_canBe_80 (lv_at hl 4 rfl) ?_
                refine lv_iload hx hb dX4_canBe_82 (lv_at hl 5 rfl) ?_
                refine lv_iload_n hx hb dX4_canBe_84 rfl (lv_at hl 2 rfl) ?_
                refine lv_icmp_eq (tgt := 113) hx hb dX4_canBe_85 (by decide) (fun c85 => ?_) (fun c85 => ?_)
                · refine lv_iconst (v := (0 : Int32)) hx hb dX4_canBe_113 (by decide) ?_
                  refine lv_iadd hx hb dX4_canBe_114 ?_
                  refine zq_te (y := (nI a)) (Int32.add_zero _) ?_
                  refine lv_istore (lv' := [(6, .int (nI a)), (0, .ref (ad 0)), (1, .int (nI f)), (2, .int pl), (4, .int (nI (xn / 1000))), (7, .int (nI j))]) hx hb dX4_canBe_115 hl (by decide) rfl (fun ls hl => ?_)
                  refine lv_iinc (v := (nI (j + 1))) (lv' := [(7, .int (nI (j + 1))), (6, .int (nI a)), (0, .ref (ad 0)), (1, .int (nI f)), (2, .int pl), (4, .int (nI (xn / 1000)))]) hx hb dX4_canBe_117 hl (k := 5) rfl ((nI_succ _).symm) (by decide) rfl (fun ls hl => ?_)
                  refine lv_goto (tgt := 69) hx hb dX4_canBe_120 (by decide) ?_
                  exact ih69 (j + 1) a ls (by omega) (by omega) (by rw [fb_ct_succ, if_neg (by simp [zin, c85]), Nat.add_zero, ea]) (lv_sub hl [2, 3, 4, 5, 1, 0] rfl)
                · refine lv_aload_n hx hb dX4_canBe_88 rfl (lv_at hl 0 rfl) ?_
                  refine zq_get hx hb hts in_X4_canBe_X4 hown hK hP 0 rfl rfl 1 (by decide) (hts _ w_X4_canBe__fieldLink_RX4_13_WordsBesideModel_steps_I__04b4b3) rfl dX4_canBe_89 ?_
                  refine lv_bipush (v := (nI 12)) hx hb dX4_canBe_92 (by decide) ?_
                  refine lv_iload_n hx hb dX4_canBe_94 rfl (lv_at hl 1 rfl) ?_
                  refine lv_imul hx hb dX4_canBe_95 ?_
                  refine lv_iload hx hb dX4_canBe_96 (lv_at hl 5 rfl) ?_
                  refine lv_iadd hx hb dX4_canBe_98 ?_
                  refine zq_ild hx hb hK hP 2 rfl (12 * f + j) (by simp only [pk_mul, nI_add] <;> (congr 1; omega)) (by omega) (by decide) dX4_canBe_99 ?_
                  refine lv_sipush (v := (nI 1000)) hx hb dX4_canBe_100 (by decide) ?_
                  refine lv_idiv hx hb dX4_canBe_103 (nI_ne0 (by omega) (by omega)) ?_
                  refine lv_bipush (v := (nI 9)) hx hb dX4_canBe_104 (by decide) ?_
                  refine lv_icmp_ne (tgt := 113) hx hb dX4_canBe_106 (by decide) (fun c106 => ?_) (fun c106 => ?_)
                  · refine lv_iconst (v := (0 : Int32)) hx hb dX4_canBe_113 (by decide) ?_
                    refine lv_iadd hx hb dX4_canBe_114 ?_
                    refine zq_te (y := (nI a)) (Int32.add_zero _) ?_
                    refine lv_istore (lv' := [(6, .int (nI a)), (0, .ref (ad 0)), (1, .int (nI f)), (2, .int pl), (4, .int (nI (xn / 1000))), (7, .int (nI j))]) hx hb dX4_canBe_115 hl (by decide) rfl (fun ls hl => ?_)
                    refine lv_iinc (v := (nI (j + 1))) (lv' := [(7, .int (nI (j + 1))), (6, .int (nI a)), (0, .ref (ad 0)), (1, .int (nI f)), (2, .int pl), (4, .int (nI (xn / 1000)))]) hx hb dX4_canBe_117 hl (k := 5) rfl ((nI_succ _).symm) (by decide) rfl (fun ls hl => ?_)
                    refine lv_goto (tgt := 69) hx hb dX4_canBe_120 (by decide) ?_
                    exact ih69 (j + 1) a ls (by omega) (by omega) (by rw [fb_ct_succ, if_neg (by simp [zin, c106]), Nat.add_zero, ea]) (lv_sub hl [2, 3, 4, 5, 1, 0] rfl)
                  · refine lv_iconst (v := (1 : Int32)) hx hb dX4_canBe_109 (by decide) ?_
                    refine lv_goto (tgt := 114) hx hb dX4_canBe_110 (by decide) ?_
                    refine lv_iadd hx hb dX4_canBe_114 ?_
                    refine zq_te (y := (nI (a + 1))) (nI_1 _) ?_
                    refine lv_istore (lv' := [(6, .int (nI (a + 1))), (0, .ref (ad 0)), (1, .int (nI f)), (2, .int pl), (4, .int (nI (xn / 1000))), (7, .int (nI j))]) hx hb dX4_canBe_115 hl (by decide) rfl (fun ls hl => ?_)
                    refine lv_iinc (v := (nI (j + 1))) (lv' := [(7, .int (nI (j + 1))), (6, .int (nI (a + 1))), (0, .ref (ad 0)), (1, .int (nI f)), (2, .int pl), (4, .int (nI (xn / 1000)))]) hx hb dX4_canBe_117 hl (k := 5) rfl ((nI_succ _).symm) (by decide) rfl (fun ls hl => ?_)
                    refine lv_goto (tgt := 69) hx hb dX4_canBe_120 (by decide) ?_
                    exact ih69 (j + 1) (a + 1) ls (by omega) (by omega) (by rw [fb_ct_succ, if_pos (by simp [zin, c85, c106]), ← Nat.add_assoc, ea]) (lv_sub hl [2, 3, 4, 5, 1, 0] rfl)
          exact loop69 ((L f) + 1) 0 1 ls (by omega) (by omega) rfl (lv_sub hl [4, 5, 6, 3, 1, 0] rfl)
