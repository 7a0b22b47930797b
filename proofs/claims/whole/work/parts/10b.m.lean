/-! the reference, by program (genm.py): X1_nameOf X1_unit X1_pointBy X1_isBeginning X1_parse X1_errorPosition X1_addPeg X1_addFromBuffer -/
set_option maxHeartbeats 4000000 in
set_option maxRecDepth 100000 in
theorem c_X1_nameOf (l : Launch) (g : GG) (u : ST) (v : VT) (k : Int) (hI : Inv u) (k0z : 1 ≤ k) (k1z : k ≤ 4) : Met l yX1_nameOf wsX1_nameOf (k2_rm 1 23) (va_Pc [.ref (gM g 0), .int (iI k)] (fun U => PM g u v U U.heap)) (vp_Si (fun r => r = iI (nof u k))) 0 0 (fun _ => False) := by
  refine Met.ofW (cc := cX1_nameOf) (maxL := 2) (ret := (some .int)) (by decide) rfl ?_
  intro pp ee s mm args below meth cc9 s₁ B hml hv
  obtain ⟨rfl, hPX⟩ := hv
  obtain ⟨hP, hK⟩ := id hPX
  have hx := B.exec
  have hb := B.bytes
  have hr := B.returns
  have hts := atoms_spec (ws := wsX1_nameOf) B.pre
  have hown : s.vm.findClass RX1 = some mm.cls := findClass_of_methodNamed B.named
  have hlocks := B.notSynchronized
  have hin : ∀ w ∈ wsX10, w ∈ wsX1_nameOf := fun w h => List.mem_cons_of_mem _ (List.mem_append_right _ h)
  have m7z : Cond.fieldLink RX1 7 "TraverseBoardModel" "buffer" "[I" ∈ wsX1_nameOf := by decide +kernel
  have hi_bl := iv_bl hI
  have hi_pg := iv_pg hI
  have hi_se := iv_se hI
  have hi_dr := iv_dr hI
  have hl := lv_entry ([.ref (gM g 0), .int (iI k)]) (n := 2) (Nat.le_of_ble_eq_true rfl)
  rw [lg_entry_eq]
  generalize (lg_sl ([.ref (gM g 0), .int (iI k)]) ++ List.replicate (2 - (lg_sl ([.ref (gM g 0), .int (iI k)])).length) Slot.unset).toArray = ls at hl ⊢
  have hl : lv_has ls 2 [(0, .ref (gM g 0)), (1, .int (iI k))] := hl
  refine lv_iload_n hx hb dX1_nameOf_0 rfl (lv_at hl 1 rfl) ?_
  refine z_if_le (tgt := 13) hx hb dX1_nameOf_1 (by decide) (by omega) (fun c_1 => (absurd c_1 (by omega))) (fun c_1 => ?_)
  refine lv_aload_n hx hb dX1_nameOf_4 rfl (lv_at hl 0 rfl) ?_
  refine gf_X1_7 hx hb hts hin m7z hown hK hP dX1_nameOf_5 ?_
  refine z_iconst hx hb dX1_nameOf_8 ?_
  refine al_X1_1 hx hb hK hP ⟨by omega, by omega⟩ dX1_nameOf_9 ?_
  have hv_2 := iv_bu hI 0
  refine lv_goto (tgt := 14) hx hb dX1_nameOf_10 (by decide) ?_
  refine lv_iload_n hx hb dX1_nameOf_14 rfl (lv_at hl 1 rfl) ?_
  refine z_iconst hx hb dX1_nameOf_15 ?_
  refine z_icmp_le (tgt := 28) hx hb dX1_nameOf_16 (by decide) (by omega) ⟨by decide, by decide⟩ (fun c_3 => ?_) (fun c_3 => ?_)
  · refine z_iconst hx hb dX1_nameOf_28 ?_
    refine lv_iload_n hx hb dX1_nameOf_29 rfl (lv_at hl 1 rfl) ?_
    refine z_iconst hx hb dX1_nameOf_30 ?_
    refine z_icmp_le (tgt := 43) hx hb dX1_nameOf_31 (by decide) (by omega) ⟨by decide, by decide⟩ (fun c_4 => ?_) (fun c_4 => ?_)
    · refine z_iconst hx hb dX1_nameOf_43 ?_
      refine lv_iload_n hx hb dX1_nameOf_44 rfl (lv_at hl 1 rfl) ?_
      refine z_iconst hx hb dX1_nameOf_45 ?_
      refine z_icmp_le (tgt := 58) hx hb dX1_nameOf_46 (by decide) (by omega) ⟨by decide, by decide⟩ (fun c_5 => ?_) (fun c_5 => ?_)
      · refine z_iconst hx hb dX1_nameOf_58 ?_
        refine zS_i (As := [.int (iI (zbu u 0)), .int (iI 0), .int (iI 0), .int (iI 0)]) (rest := []) ⟨hx, hb, hml, hown, hts⟩ (PT) PT_blind PT_mv  (c_X1_four l g (zbu u 0) 0 0 0) (va_cwS 4 hts gX1_nameOf_X1_four rfl rfl rfl (by decide +kernel) ⟨Nat.le_of_ble_eq_true rfl, Nat.le_of_ble_eq_true rfl⟩) rfl hl.1 rfl (Nat.le_of_ble_eq_true rfl) dX1_nameOf_59 ⟨Nat.zero_le _, Nat.zero_le _⟩ ?_
        exact zr_i hx hb hr hlocks dX1_nameOf_62 (by unfold nof; (repeat' split) <;> first | rfl | (exfalso; omega))
      · refine lv_aload_n hx hb dX1_nameOf_49 rfl (lv_at hl 0 rfl) ?_
        refine gf_X1_7 hx hb hts hin m7z hown hK hP dX1_nameOf_50 ?_
        refine z_iconst hx hb dX1_nameOf_53 ?_
        refine al_X1_1 hx hb hK hP ⟨by omega, by omega⟩ dX1_nameOf_54 ?_
        have hv_6 := iv_bu hI 3
        refine lv_goto (tgt := 59) hx hb dX1_nameOf_55 (by decide) ?_
        refine zS_i (As := [.int (iI (zbu u 0)), .int (iI 0), .int (iI 0), .int (iI (zbu u 3))]) (rest := []) ⟨hx, hb, hml, hown, hts⟩ (PT) PT_blind PT_mv  (c_X1_four l g (zbu u 0) 0 0 (zbu u 3)) (va_cwS 4 hts gX1_nameOf_X1_four rfl rfl rfl (by decide +kernel) ⟨Nat.le_of_ble_eq_true rfl, Nat.le_of_ble_eq_true rfl⟩) rfl hl.1 rfl (Nat.le_of_ble_eq_true rfl) dX1_nameOf_59 ⟨Nat.zero_le _, Nat.zero_le _⟩ ?_
        exact zr_i hx hb hr hlocks dX1_nameOf_62 (by unfold nof; (repeat' split) <;> first | rfl | (exfalso; omega))
    · refine lv_aload_n hx hb dX1_nameOf_34 rfl (lv_at hl 0 rfl) ?_
      refine gf_X1_7 hx hb hts hin m7z hown hK hP dX1_nameOf_35 ?_
      refine z_iconst hx hb dX1_nameOf_38 ?_
      refine al_X1_1 hx hb hK hP ⟨by omega, by omega⟩ dX1_nameOf_39 ?_
      have hv_7 := iv_bu hI 2
      refine lv_goto (tgt := 44) hx hb dX1_nameOf_40 (by decide) ?_
      refine lv_iload_n hx hb dX1_nameOf_44 rfl (lv_at hl 1 rfl) ?_
      refine z_iconst hx hb dX1_nameOf_45 ?_
      refine z_icmp_le (tgt := 58) hx hb dX1_nameOf_46 (by decide) (by omega) ⟨by decide, by decide⟩ (fun c_8 => ?_) (fun c_8 => ?_)
      · refine z_iconst hx hb dX1_nameOf_58 ?_
        refine zS_i (As := [.int (iI (zbu u 0)), .int (iI 0), .int (iI (zbu u 2)), .int (iI 0)]) (rest := []) ⟨hx, hb, hml, hown, hts⟩ (PT) PT_blind PT_mv  (c_X1_four l g (zbu u 0) 0 (zbu u 2) 0) (va_cwS 4 hts gX1_nameOf_X1_four rfl rfl rfl (by decide +kernel) ⟨Nat.le_of_ble_eq_true rfl, Nat.le_of_ble_eq_true rfl⟩) rfl hl.1 rfl (Nat.le_of_ble_eq_true rfl) dX1_nameOf_59 ⟨Nat.zero_le _, Nat.zero_le _⟩ ?_
        exact zr_i hx hb hr hlocks dX1_nameOf_62 (by unfold nof; (repeat' split) <;> first | rfl | (exfalso; omega))
      · refine lv_aload_n hx hb dX1_nameOf_49 rfl (lv_at hl 0 rfl) ?_
        refine gf_X1_7 hx hb hts hin m7z hown hK hP dX1_nameOf_50 ?_
        refine z_iconst hx hb dX1_nameOf_53 ?_
        refine al_X1_1 hx hb hK hP ⟨by omega, by omega⟩ dX1_nameOf_54 ?_
        have hv_9 := iv_bu hI 3
        refine lv_goto (tgt := 59) hx hb dX1_nameOf_55 (by decide) ?_
        refine zS_i (As := [.int (iI (zbu u 0)), .int (iI 0), .int (iI (zbu u 2)), .int (iI (zbu u 3))]) (rest := []) ⟨hx, hb, hml, hown, hts⟩ (PT) PT_blind PT_mv  (c_X1_four l g (zbu u 0) 0 (zbu u 2) (zbu u 3)) (va_cwS 4 hts gX1_nameOf_X1_four rfl rfl rfl (by decide +kernel) ⟨Nat.le_of_ble_eq_true rfl, Nat.le_of_ble_eq_true rfl⟩) rfl hl.1 rfl (Nat.le_of_ble_eq_true rfl) dX1_nameOf_59 ⟨Nat.zero_le _, Nat.zero_le _⟩ ?_
        exact zr_i hx hb hr hlocks dX1_nameOf_62 (by unfold nof; (repeat' split) <;> first | rfl | (exfalso; omega))
  · refine lv_aload_n hx hb dX1_nameOf_19 rfl (lv_at hl 0 rfl) ?_
    refine gf_X1_7 hx hb hts hin m7z hown hK hP dX1_nameOf_20 ?_
    refine z_iconst hx hb dX1_nameOf_23 ?_
    refine al_X1_1 hx hb hK hP ⟨by omega, by omega⟩ dX1_nameOf_24 ?_
    have hv_10 := iv_bu hI 1
    refine lv_goto (tgt := 29) hx hb dX1_nameOf_25 (by decide) ?_
    refine lv_iload_n hx hb dX1_nameOf_29 rfl (lv_at hl 1 rfl) ?_
    refine z_iconst hx hb dX1_nameOf_30 ?_
    refine z_icmp_le (tgt := 43) hx hb dX1_nameOf_31 (by decide) (by omega) ⟨by decide, by decide⟩ (fun c_11 => ?_) (fun c_11 => ?_)
    · refine z_iconst hx hb dX1_nameOf_43 ?_
      refine lv_iload_n hx hb dX1_nameOf_44 rfl (lv_at hl 1 rfl) ?_
      refine z_iconst hx hb dX1_nameOf_45 ?_
      refine z_icmp_le (tgt := 58) hx hb dX1_nameOf_46 (by decide) (by omega) ⟨by decide, by decide⟩ (fun c_12 => ?_) (fun c_12 => ?_)
      · refine z_iconst hx hb dX1_nameOf_58 ?_
        refine zS_i (As := [.int (iI (zbu u 0)), .int (iI (zbu u 1)), .int (iI 0), .int (iI 0)]) (rest := []) ⟨hx, hb, hml, hown, hts⟩ (PT) PT_blind PT_mv  (c_X1_four l g (zbu u 0) (zbu u 1) 0 0) (va_cwS 4 hts gX1_nameOf_X1_four rfl rfl rfl (by decide +kernel) ⟨Nat.le_of_ble_eq_true rfl, Nat.le_of_ble_eq_true rfl⟩) rfl hl.1 rfl (Nat.le_of_ble_eq_true rfl) dX1_nameOf_59 ⟨Nat.zero_le _, Nat.zero_le _⟩ ?_
        exact zr_i hx hb hr hlocks dX1_nameOf_62 (by unfold nof; (repeat' split) <;> first | rfl | (exfalso; omega))
      · refine lv_aload_n hx hb dX1_nameOf_49 rfl (lv_at hl 0 rfl) ?_
        refine gf_X1_7 hx hb hts hin m7z hown hK hP dX1_nameOf_50 ?_
        refine z_iconst hx hb dX1_nameOf_53 ?_
        refine al_X1_1 hx hb hK hP ⟨by omega, by omega⟩ dX1_nameOf_54 ?_
        have hv_13 := iv_bu hI 3
        refine lv_goto (tgt := 59) hx hb dX1_nameOf_55 (by decide) ?_
        refine zS_i (As := [.int (iI (zbu u 0)), .int (iI (zbu u 1)), .int (iI 0), .int (iI (zbu u 3))]) (rest := []) ⟨hx, hb, hml, hown, hts⟩ (PT) PT_blind PT_mv  (c_X1_four l g (zbu u 0) (zbu u 1) 0 (zbu u 3)) (va_cwS 4 hts gX1_nameOf_X1_four rfl rfl rfl (by decide +kernel) ⟨Nat.le_of_ble_eq_true rfl, Nat.le_of_ble_eq_true rfl⟩) rfl hl.1 rfl (Nat.le_of_ble_eq_true rfl) dX1_nameOf_59 ⟨Nat.zero_le _, Nat.zero_le _⟩ ?_
        exact zr_i hx hb hr hlocks dX1_nameOf_62 (by unfold nof; (repeat' split) <;> first | rfl | (exfalso; omega))
    · refine lv_aload_n hx hb dX1_nameOf_34 rfl (lv_at hl 0 rfl) ?_
      refine gf_X1_7 hx hb hts hin m7z hown hK hP dX1_nameOf_35 ?_
      refine z_iconst hx hb dX1_nameOf_38 ?_
      refine al_X1_1 hx hb hK hP ⟨by omega, by omega⟩ dX1_nameOf_39 ?_
      have hv_14 := iv_bu hI 2
      refine lv_goto (tgt := 44) hx hb dX1_nameOf_40 (by decide) ?_
      refine lv_iload_n hx hb dX1_nameOf_44 rfl (lv_at hl 1 rfl) ?_
      refine z_iconst hx hb dX1_nameOf_45 ?_
      refine z_icmp_le (tgt := 58) hx hb dX1_nameOf_46 (by decide) (by omega) ⟨by decide, by decide⟩ (fun c_15 => ?_) (fun c_15 => ?_)
      · refine z_iconst hx hb dX1_nameOf_58 ?_
        refine zS_i (As := [.int (iI (zbu u 0)), .int (iI (zbu u 1)), .int (iI (zbu u 2)), .int (iI 0)]) (rest := []) ⟨hx, hb, hml, hown, hts⟩ (PT) PT_blind PT_mv  (c_X1_four l g (zbu u 0) (zbu u 1) (zbu u 2) 0) (va_cwS 4 hts gX1_nameOf_X1_four rfl rfl rfl (by decide +kernel) ⟨Nat.le_of_ble_eq_true rfl, Nat.le_of_ble_eq_true rfl⟩) rfl hl.1 rfl (Nat.le_of_ble_eq_true rfl) dX1_nameOf_59 ⟨Nat.zero_le _, Nat.zero_le _⟩ ?_
        exact zr_i hx hb hr hlocks dX1_nameOf_62 (by unfold nof; (repeat' split) <;> first | rfl | (exfalso; omega))
      · refine lv_aload_n hx hb dX1_nameOf_49 rfl (lv_at hl 0 rfl) ?_
        refine gf_X1_7 hx hb hts hin m7z hown hK hP dX1_nameOf_50 ?_
        refine z_iconst hx hb dX1_nameOf_53 ?_
        refine al_X1_1 hx hb hK hP ⟨by omega, by omega⟩ dX1_nameOf_54 ?_
        have hv_16 := iv_bu hI 3
        refine lv_goto (tgt := 59) hx hb dX1_nameOf_55 (by decide) ?_
        refine zS_i (As := [.int (iI (zbu u 0)), .int (iI (zbu u 1)), .int (iI (zbu u 2)), .int (iI (zbu u 3))]) (rest := []) ⟨hx, hb, hml, hown, hts⟩ (PT) PT_blind PT_mv  (c_X1_four l g (zbu u 0) (zbu u 1) (zbu u 2) (zbu u 3)) (va_cwS 4 hts gX1_nameOf_X1_four rfl rfl rfl (by decide +kernel) ⟨Nat.le_of_ble_eq_true rfl, Nat.le_of_ble_eq_true rfl⟩) rfl hl.1 rfl (Nat.le_of_ble_eq_true rfl) dX1_nameOf_59 ⟨Nat.zero_le _, Nat.zero_le _⟩ ?_
        exact zr_i hx hb hr hlocks dX1_nameOf_62 (by unfold nof; (repeat' split) <;> first | rfl | (exfalso; omega))
set_option maxHeartbeats 4000000 in
set_option maxRecDepth 100000 in
theorem c_X1_unit (l : Launch) (g : GG) (k : Int) (k0z : 1 ≤ k) (k1z : k ≤ 4) : Met l yX1_unit wsX1_unit (k2_rm 0 0) (va_Pc [.int (iI k)] (fun U => PT U U.heap)) (vp_Si (fun r => r = iI (unt k))) 0 0 (fun _ => False) := by
  refine Met.ofW (cc := cX1_unit) (maxL := 3) (ret := (some .int)) (by decide) rfl ?_
  intro pp ee s mm args below meth cc9 s₁ B hml hv
  obtain ⟨rfl, hPX⟩ := hv
  have hx := B.exec
  have hb := B.bytes
  have hr := B.returns
  have hts := atoms_spec (ws := wsX1_unit) B.pre
  have hown : s.vm.findClass RX1 = some mm.cls := findClass_of_methodNamed B.named
  have hlocks := B.notSynchronized
  have hl := lv_entry ([.int (iI k)]) (n := 3) (Nat.le_of_ble_eq_true rfl)
  rw [lg_entry_eq]
  generalize (lg_sl ([.int (iI k)]) ++ List.replicate (3 - (lg_sl ([.int (iI k)])).length) Slot.unset).toArray = ls at hl ⊢
  have hl : lv_has ls 3 [(0, .int (iI k))] := hl
  refine z_iconst hx hb dX1_unit_0 ?_
  refine lv_istore_n (lv' := [(1, .int (iI 1)), (0, .int (iI k))]) hx hb dX1_unit_1 rfl hl (by decide) rfl (fun ls hl => ?_)
  refine lv_iload_n hx hb dX1_unit_2 rfl (lv_at hl 1 rfl) ?_
  refine lv_istore_n (lv' := [(2, .int (iI k)), (1, .int (iI 1)), (0, .int (iI k))]) hx hb dX1_unit_3 rfl hl (by decide) rfl (fun ls hl => ?_)
  refine z_loop2 (nL := 3) (fun x t => (k ≤ t ∧ t ≤ 4) ∧ (x = 128 ^ Int.toNat (t - k))) (fun x t => (4 - t).toNat) (fun x t => [(0, .int (iI k)), (1, .int (iI x)), (2, .int (iI t))]) (fun x t ls hinv hl ih_4 => ?_) 1 k ls ⟨(by omega), (by rw [Int.sub_self]; rfl)⟩ (lv_sub hl [2, 1, 0] rfl)
  have hinv : (k ≤ t ∧ t ≤ 4) ∧ (x = 128 ^ Int.toNat (t - k)) := hinv
  obtain ⟨q1z, q3z⟩ := hinv
  have hl : lv_has ls 3 [(0, .int (iI k)), (1, .int (iI x)), (2, .int (iI t))] := hl
  refine lv_iload_n hx hb dX1_unit_4 rfl (lv_at hl 2 rfl) ?_
  refine z_iconst hx hb dX1_unit_5 ?_
  refine z_icmp_ge (tgt := 21) hx hb dX1_unit_6 (by decide) (by omega) ⟨by decide, by decide⟩ (fun c_1 => ?_) (fun c_1 => ?_)
  · refine lv_iload_n hx hb dX1_unit_21 rfl (lv_at hl 1 rfl) ?_
    exact zr_i hx hb hr hlocks dX1_unit_22 (by rw [q3z, show t = 4 by omega]; rfl)
  · refine lv_iload_n hx hb dX1_unit_9 rfl (lv_at hl 1 rfl) ?_
    refine z_sipush hx hb dX1_unit_10 (by decide +kernel) ?_
    refine z_imul hx hb dX1_unit_13 ?_
    refine lv_istore_n (lv' := [(1, .int (iI (x * 128))), (0, .int (iI k)), (2, .int (iI t))]) hx hb dX1_unit_14 rfl hl (by decide) rfl (fun ls hl => ?_)
    refine z_iinc (k := 2) (lv' := [(2, .int (iI (t + 1))), (1, .int (iI (x * 128))), (0, .int (iI k))]) hx hb dX1_unit_15 hl rfl (by decide) rfl (fun ls hl => ?_)
    refine lv_goto (tgt := 4) hx hb dX1_unit_18 (by decide) ?_
    exact ih_4 (x * 128) (t + 1) ls ⟨(by omega), (by rw [unt_s t q1z.1, ← q3z])⟩ (show (4 - (t + 1)).toNat < (4 - t).toNat by omega) (lv_sub hl [2, 1, 0] rfl)
set_option maxHeartbeats 4000000 in
set_option maxRecDepth 100000 in
theorem c_X1_pointBy (l : Launch) (g : GG) (u : ST) (v : VT) (k : Int) (hI : Inv u) (k0z : 0 ≤ k) (k1z : k ≤ 12) : Met l yX1_pointBy wsX1_pointBy (k2_rm 2 44) (va_Pc [.ref (gM g 0), .int (iI k)] (fun U => PM g u v U U.heap)) (vp_Si (fun r => r = iI (py u k))) 0 0 (fun _ => False) := by
  refine Met.ofW (cc := cX1_pointBy) (maxL := 4) (ret := (some .int)) (by decide) rfl ?_
  intro pp ee s mm args below meth cc9 s₁ B hml hv
  obtain ⟨rfl, hPX⟩ := hv
  obtain ⟨hP, hK⟩ := id hPX
  have hx := B.exec
  have hb := B.bytes
  have hr := B.returns
  have hts := atoms_spec (ws := wsX1_pointBy) B.pre
  have hown : s.vm.findClass RX1 = some mm.cls := findClass_of_methodNamed B.named
  have hlocks := B.notSynchronized
  have hin : ∀ w ∈ wsX10, w ∈ wsX1_pointBy := fun w h => List.mem_cons_of_mem _ (List.mem_append_right _ h)
  have hi_bl := iv_bl hI
  have hi_pg := iv_pg hI
  have hi_se := iv_se hI
  have hi_dr := iv_dr hI
  have hl := lv_entry ([.ref (gM g 0), .int (iI k)]) (n := 4) (Nat.le_of_ble_eq_true rfl)
  rw [lg_entry_eq]
  generalize (lg_sl ([.ref (gM g 0), .int (iI k)]) ++ List.replicate (4 - (lg_sl ([.ref (gM g 0), .int (iI k)])).length) Slot.unset).toArray = ls at hl ⊢
  have hl : lv_has ls 4 [(0, .ref (gM g 0)), (1, .int (iI k))] := hl
  refine z_iconst hx hb dX1_pointBy_0 ?_
  refine lv_istore_n (lv' := [(2, .int (iI ((-1)))), (0, .ref (gM g 0)), (1, .int (iI k))]) hx hb dX1_pointBy_1 rfl hl (by decide) rfl (fun ls hl => ?_)
  refine z_iconst hx hb dX1_pointBy_2 ?_
  refine lv_istore_n (lv' := [(3, .int (iI 0)), (2, .int (iI ((-1)))), (0, .ref (gM g 0)), (1, .int (iI k))]) hx hb dX1_pointBy_3 rfl hl (by decide) rfl (fun ls hl => ?_)
  refine z_loop2 (nL := 4) (fun x t => (0 ≤ t ∧ t ≤ 32) ∧ (x = pyn u k t.toNat) ∧ (t = 0 ∨ (0 < k ∧ k < 5))) (fun x t => (32 - t).toNat) (fun x t => [(0, .ref (gM g 0)), (1, .int (iI k)), (2, .int (iI x)), (3, .int (iI t))]) (fun x t ls hinv hl ih_4 => ?_) ((-1)) 0 ls ⟨(by omega), (by rfl), (by omega)⟩ (lv_sub hl [2, 3, 1, 0] rfl)
  have hinv : (0 ≤ t ∧ t ≤ 32) ∧ (x = pyn u k t.toNat) ∧ (t = 0 ∨ (0 < k ∧ k < 5)) := hinv
  obtain ⟨q1z, q3z, q4z⟩ := hinv
  have hl : lv_has ls 4 [(0, .ref (gM g 0)), (1, .int (iI k)), (2, .int (iI x)), (3, .int (iI t))] := hl
  have hn1 := nmc_rng t
  have hn2 := nof_rng hI k
  refine lv_iload_n hx hb dX1_pointBy_4 rfl (lv_at hl 3 rfl) ?_
  refine z_bipush hx hb dX1_pointBy_5 (by decide +kernel) ?_
  refine z_icmp_ge (tgt := 43) hx hb dX1_pointBy_7 (by decide) (by omega) ⟨by decide, by decide⟩ (fun c_1 => ?_) (fun c_1 => ?_)
  · refine lv_iload_n hx hb dX1_pointBy_43 rfl (lv_at hl 2 rfl) ?_
    exact zr_i hx hb hr hlocks dX1_pointBy_44 (by unfold py; first | (rw [if_pos (by omega), q3z, show t = 32 by omega]; rfl) | (rw [if_neg (by omega), q3z, show t = 0 by omega]; rfl))
  · refine lv_iload_n hx hb dX1_pointBy_10 rfl (lv_at hl 1 rfl) ?_
    refine z_if_le (tgt := 43) hx hb dX1_pointBy_11 (by decide) (by omega) (fun c_2 => ?_) (fun c_2 => ?_)
    · refine lv_iload_n hx hb dX1_pointBy_43 rfl (lv_at hl 2 rfl) ?_
      exact zr_i hx hb hr hlocks dX1_pointBy_44 (by unfold py; first | (rw [if_pos (by omega), q3z, show t = 32 by omega]; rfl) | (rw [if_neg (by omega), q3z, show t = 0 by omega]; rfl))
    · refine lv_iload_n hx hb dX1_pointBy_14 rfl (lv_at hl 1 rfl) ?_
      refine z_iconst hx hb dX1_pointBy_15 ?_
      refine z_icmp_ge (tgt := 43) hx hb dX1_pointBy_16 (by decide) (by omega) ⟨by decide, by decide⟩ (fun c_3 => ?_) (fun c_3 => ?_)
      · refine lv_iload_n hx hb dX1_pointBy_43 rfl (lv_at hl 2 rfl) ?_
        exact zr_i hx hb hr hlocks dX1_pointBy_44 (by unfold py; first | (rw [if_pos (by omega), q3z, show t = 32 by omega]; rfl) | (rw [if_neg (by omega), q3z, show t = 0 by omega]; rfl))
      · refine lv_iload_n hx hb dX1_pointBy_19 rfl (lv_at hl 3 rfl) ?_
        refine zS_i (As := [.int (iI t)]) (rest := []) ⟨hx, hb, hml, hown, hts⟩ (PT) PT_blind PT_mv  (c_X1_name l g t (by omega) (by omega)) (va_cwS 1 hts gX1_pointBy_X1_name rfl rfl rfl (by decide +kernel) ⟨Nat.le_of_ble_eq_true rfl, Nat.le_of_ble_eq_true rfl⟩) rfl hl.1 rfl (Nat.le_of_ble_eq_true rfl) dX1_pointBy_20 ⟨Nat.zero_le _, Nat.zero_le _⟩ ?_
        refine lv_aload_n hx hb dX1_pointBy_23 rfl (lv_at hl 0 rfl) ?_
        refine lv_iload_n hx hb dX1_pointBy_24 rfl (lv_at hl 1 rfl) ?_
        refine zV_i (As := [.int (iI k)]) (rest := [.int (iI (nmc t))]) ⟨hx, hb, hml, hown, hts⟩ (PM g u v) (PM_blind g u v) (PM_mv hP hK) (rcM hK hP) (c_X1_nameOf l g u v k hI (by omega) (by omega)) (cwV 1 hts gX1_pointBy_X1_nameOf rfl rfl rfl (by decide +kernel) ⟨Nat.le_of_ble_eq_true rfl, Nat.le_of_ble_eq_true rfl⟩) rfl hl.1 rfl (Nat.le_of_ble_eq_true rfl) dX1_pointBy_25 ⟨Nat.zero_le _, Nat.zero_le _⟩ ?_
        refine z_icmp_ne (tgt := 35) hx hb dX1_pointBy_28 (by decide) (by omega) (by omega) (fun c_4 => ?_) (fun c_4 => ?_)
        · refine lv_iload_n hx hb dX1_pointBy_35 rfl (lv_at hl 2 rfl) ?_
          refine lv_istore_n (lv' := [(2, .int (iI x)), (0, .ref (gM g 0)), (1, .int (iI k)), (3, .int (iI t))]) hx hb dX1_pointBy_36 rfl hl (by decide) rfl (fun ls hl => ?_)
          refine z_iinc (k := 3) (lv' := [(3, .int (iI (t + 1))), (2, .int (iI x)), (0, .ref (gM g 0)), (1, .int (iI k))]) hx hb dX1_pointBy_37 hl rfl (by decide) rfl (fun ls hl => ?_)
          refine lv_goto (tgt := 4) hx hb dX1_pointBy_40 (by decide) ?_
          exact ih_4 x (t + 1) ls ⟨(by omega), (by rw [pyn_s u k q1z.1, ← q3z]; first | rw [if_pos (by assumption)] | rw [if_neg (by assumption)]), (by omega)⟩ (show (32 - (t + 1)).toNat < (32 - t).toNat by omega) (lv_sub hl [2, 3, 1, 0] rfl)
        · refine lv_iload_n hx hb dX1_pointBy_31 rfl (lv_at hl 3 rfl) ?_
          refine lv_goto (tgt := 36) hx hb dX1_pointBy_32 (by decide) ?_
          refine lv_istore_n (lv' := [(2, .int (iI t)), (0, .ref (gM g 0)), (1, .int (iI k)), (3, .int (iI t))]) hx hb dX1_pointBy_36 rfl hl (by decide) rfl (fun ls hl => ?_)
          refine z_iinc (k := 3) (lv' := [(3, .int (iI (t + 1))), (2, .int (iI t)), (0, .ref (gM g 0)), (1, .int (iI k))]) hx hb dX1_pointBy_37 hl rfl (by decide) rfl (fun ls hl => ?_)
          refine lv_goto (tgt := 4) hx hb dX1_pointBy_40 (by decide) ?_
          exact ih_4 t (t + 1) ls ⟨(by omega), (by rw [pyn_s u k q1z.1, ← q3z]; first | rw [if_pos (by assumption)] | rw [if_neg (by assumption)]), (by omega)⟩ (show (32 - (t + 1)).toNat < (32 - t).toNat by omega) (lv_sub hl [2, 3, 1, 0] rfl)
set_option maxHeartbeats 4000000 in
set_option maxRecDepth 100000 in
theorem c_X1_isBeginning (l : Launch) (g : GG) (u : ST) (v : VT) (k : Int) (hI : Inv u) (k0z : 1 ≤ k) (k1z : k ≤ 13) : Met l yX1_isBeginning wsX1_isBeginning (k2_rm 2 44) (va_Pc [.ref (gM g 0), .int (iI k)] (fun U => PM g u v U U.heap)) (vp_Si (fun r => (r = iI 1 ∧ (k < 5 ∧ ¬ bgn u k 32 = 0)) ∨ (r = iI 0 ∧ ¬ (k < 5 ∧ ¬ bgn u k 32 = 0)))) 0 0 (fun _ => False) := by
  refine Met.ofW (cc := cX1_isBeginning) (maxL := 4) (ret := (some .boolean)) (by decide) rfl ?_
  intro pp ee s mm args below meth cc9 s₁ B hml hv
  obtain ⟨rfl, hPX⟩ := hv
  obtain ⟨hP, hK⟩ := id hPX
  have hx := B.exec
  have hb := B.bytes
  have hr := B.returns
  have hts := atoms_spec (ws := wsX1_isBeginning) B.pre
  have hown : s.vm.findClass RX1 = some mm.cls := findClass_of_methodNamed B.named
  have hlocks := B.notSynchronized
  have hin : ∀ w ∈ wsX10, w ∈ wsX1_isBeginning := fun w h => List.mem_cons_of_mem _ (List.mem_append_right _ h)
  have hi_bl := iv_bl hI
  have hi_pg := iv_pg hI
  have hi_se := iv_se hI
  have hi_dr := iv_dr hI
  have hl := lv_entry ([.ref (gM g 0), .int (iI k)]) (n := 4) (Nat.le_of_ble_eq_true rfl)
  rw [lg_entry_eq]
  generalize (lg_sl ([.ref (gM g 0), .int (iI k)]) ++ List.replicate (4 - (lg_sl ([.ref (gM g 0), .int (iI k)])).length) Slot.unset).toArray = ls at hl ⊢
  have hl : lv_has ls 4 [(0, .ref (gM g 0)), (1, .int (iI k))] := hl
  refine z_iconst hx hb dX1_isBeginning_0 ?_
  refine lv_istore_n (lv' := [(2, .int (iI 0)), (0, .ref (gM g 0)), (1, .int (iI k))]) hx hb dX1_isBeginning_1 rfl hl (by decide) rfl (fun ls hl => ?_)
  refine z_iconst hx hb dX1_isBeginning_2 ?_
  refine lv_istore_n (lv' := [(3, .int (iI 0)), (2, .int (iI 0)), (0, .ref (gM g 0)), (1, .int (iI k))]) hx hb dX1_isBeginning_3 rfl hl (by decide) rfl (fun ls hl => ?_)
  refine z_loop2 (nL := 4) (fun x t => (0 ≤ t ∧ t ≤ 32) ∧ (0 ≤ x ∧ x ≤ 1) ∧ (x = bgn u k t.toNat) ∧ (t = 0 ∨ k < 5)) (fun x t => (32 - t).toNat) (fun x t => [(0, .ref (gM g 0)), (1, .int (iI k)), (2, .int (iI x)), (3, .int (iI t))]) (fun x t ls hinv hl ih_4 => ?_) 0 0 ls ⟨(by omega), (by omega), (by rfl), (by omega)⟩ (lv_sub hl [2, 3, 1, 0] rfl)
  have hinv : (0 ≤ t ∧ t ≤ 32) ∧ (0 ≤ x ∧ x ≤ 1) ∧ (x = bgn u k t.toNat) ∧ (t = 0 ∨ k < 5) := hinv
  obtain ⟨q1z, q2z, q3z, q4z⟩ := hinv
  have hl : lv_has ls 4 [(0, .ref (gM g 0)), (1, .int (iI k)), (2, .int (iI x)), (3, .int (iI t))] := hl
  have hn1 := nmc_rng t
  have hn2 := nof_rng hI k
  refine lv_iload_n hx hb dX1_isBeginning_4 rfl (lv_at hl 3 rfl) ?_
  refine z_bipush hx hb dX1_isBeginning_5 (by decide +kernel) ?_
  refine z_icmp_ge (tgt := 53) hx hb dX1_isBeginning_7 (by decide) (by omega) ⟨by decide, by decide⟩ (fun c_1 => ?_) (fun c_1 => ?_)
  · have q3z : x = bgn u k 32 := by rw [q3z, show t = 32 by omega]; rfl
    refine lv_iload_n hx hb dX1_isBeginning_53 rfl (lv_at hl 2 rfl) ?_
    exact (by rcases (show x = 0 ∨ x = 1 by omega) with rfl | rfl <;> first | exact zr_0 hx hb hr hlocks dX1_isBeginning_54 (by omega) | exact zr_1 hx hb hr hlocks dX1_isBeginning_54 (by omega))
  · refine lv_iload_n hx hb dX1_isBeginning_10 rfl (lv_at hl 1 rfl) ?_
    refine z_iconst hx hb dX1_isBeginning_11 ?_
    refine z_icmp_ge (tgt := 53) hx hb dX1_isBeginning_12 (by decide) (by omega) ⟨by decide, by decide⟩ (fun c_2 => ?_) (fun c_2 => ?_)
    · have q3z : x = 0 := by rw [q3z, show t = 0 by omega]; rfl
      refine lv_iload_n hx hb dX1_isBeginning_53 rfl (lv_at hl 2 rfl) ?_
      exact (by rcases (show x = 0 ∨ x = 1 by omega) with rfl | rfl <;> first | exact zr_0 hx hb hr hlocks dX1_isBeginning_54 (by omega) | exact zr_1 hx hb hr hlocks dX1_isBeginning_54 (by omega))
    · have hu := unt_v k ⟨by omega, by omega⟩
      have hd1 := tdv_rng (c := unt k) hn1 (by omega)
      have hd2 := tdv_rng (c := unt k) hn2 (by omega)
      refine lv_iload_n hx hb dX1_isBeginning_15 rfl (lv_at hl 2 rfl) ?_
      refine z_if_ne (tgt := 41) hx hb dX1_isBeginning_16 (by decide) (by omega) (fun c_3 => ?_) (fun c_3 => ?_)
      · refine z_iconst hx hb dX1_isBeginning_41 ?_
        refine lv_goto (tgt := 46) hx hb dX1_isBeginning_42 (by decide) ?_
        refine lv_istore_n (lv' := [(2, .int (iI 1)), (0, .ref (gM g 0)), (1, .int (iI k)), (3, .int (iI t))]) hx hb dX1_isBeginning_46 rfl hl (by decide) rfl (fun ls hl => ?_)
        refine z_iinc (k := 3) (lv' := [(3, .int (iI (t + 1))), (2, .int (iI 1)), (0, .ref (gM g 0)), (1, .int (iI k))]) hx hb dX1_isBeginning_47 hl rfl (by decide) rfl (fun ls hl => ?_)
        refine lv_goto (tgt := 4) hx hb dX1_isBeginning_50 (by decide) ?_
        exact ih_4 1 (t + 1) ls ⟨(by omega), (by omega), (by rw [bgn_s u k q1z.1, ← q3z]; first | rw [if_pos (by omega)] | rw [if_neg (by omega)]), (by omega)⟩ (show (32 - (t + 1)).toNat < (32 - t).toNat by omega) (lv_sub hl [2, 3, 1, 0] rfl)
      · refine lv_iload_n hx hb dX1_isBeginning_19 rfl (lv_at hl 3 rfl) ?_
        refine zS_i (As := [.int (iI t)]) (rest := []) ⟨hx, hb, hml, hown, hts⟩ (PT) PT_blind PT_mv  (c_X1_name l g t (by omega) (by omega)) (va_cwS 1 hts gX1_isBeginning_X1_name rfl rfl rfl (by decide +kernel) ⟨Nat.le_of_ble_eq_true rfl, Nat.le_of_ble_eq_true rfl⟩) rfl hl.1 rfl (Nat.le_of_ble_eq_true rfl) dX1_isBeginning_20 ⟨Nat.zero_le _, Nat.zero_le _⟩ ?_
        refine lv_iload_n hx hb dX1_isBeginning_23 rfl (lv_at hl 1 rfl) ?_
        refine zS_i (As := [.int (iI k)]) (rest := [.int (iI (nmc t))]) ⟨hx, hb, hml, hown, hts⟩ (PT) PT_blind PT_mv  (c_X1_unit l g k (by omega) (by omega)) (va_cwS 1 hts gX1_isBeginning_X1_unit rfl rfl rfl (by decide +kernel) ⟨Nat.le_of_ble_eq_true rfl, Nat.le_of_ble_eq_true rfl⟩) rfl hl.1 rfl (Nat.le_of_ble_eq_true rfl) dX1_isBeginning_24 ⟨Nat.zero_le _, Nat.zero_le _⟩ ?_
        refine z_idiv hx hb (by omega) (by omega) dX1_isBeginning_27 ?_
        refine lv_aload_n hx hb dX1_isBeginning_28 rfl (lv_at hl 0 rfl) ?_
        refine lv_iload_n hx hb dX1_isBeginning_29 rfl (lv_at hl 1 rfl) ?_
        refine zV_i (As := [.int (iI k)]) (rest := [.int (iI (Int.tdiv (nmc t) (unt k)))]) ⟨hx, hb, hml, hown, hts⟩ (PM g u v) (PM_blind g u v) (PM_mv hP hK) (rcM hK hP) (c_X1_nameOf l g u v k hI (by omega) (by omega)) (cwV 1 hts gX1_isBeginning_X1_nameOf rfl rfl rfl (by decide +kernel) ⟨Nat.le_of_ble_eq_true rfl, Nat.le_of_ble_eq_true rfl⟩) rfl hl.1 rfl (Nat.le_of_ble_eq_true rfl) dX1_isBeginning_30 ⟨Nat.zero_le _, Nat.zero_le _⟩ ?_
        refine lv_iload_n hx hb dX1_isBeginning_33 rfl (lv_at hl 1 rfl) ?_
        refine zS_i (As := [.int (iI k)]) (rest := [.int (iI (nof u k)), .int (iI (Int.tdiv (nmc t) (unt k)))]) ⟨hx, hb, hml, hown, hts⟩ (PT) PT_blind PT_mv  (c_X1_unit l g k (by omega) (by omega)) (va_cwS 1 hts gX1_isBeginning_X1_unit rfl rfl rfl (by decide +kernel) ⟨Nat.le_of_ble_eq_true rfl, Nat.le_of_ble_eq_true rfl⟩) rfl hl.1 rfl (Nat.le_of_ble_eq_true rfl) dX1_isBeginning_34 ⟨Nat.zero_le _, Nat.zero_le _⟩ ?_
        refine z_idiv hx hb (by omega) (by omega) dX1_isBeginning_37 ?_
        refine z_icmp_ne (tgt := 45) hx hb dX1_isBeginning_38 (by decide) (by omega) (by omega) (fun c_4 => ?_) (fun c_4 => ?_)
        · refine z_iconst hx hb dX1_isBeginning_45 ?_
          refine lv_istore_n (lv' := [(2, .int (iI 0)), (0, .ref (gM g 0)), (1, .int (iI k)), (3, .int (iI t))]) hx hb dX1_isBeginning_46 rfl hl (by decide) rfl (fun ls hl => ?_)
          refine z_iinc (k := 3) (lv' := [(3, .int (iI (t + 1))), (2, .int (iI 0)), (0, .ref (gM g 0)), (1, .int (iI k))]) hx hb dX1_isBeginning_47 hl rfl (by decide) rfl (fun ls hl => ?_)
          refine lv_goto (tgt := 4) hx hb dX1_isBeginning_50 (by decide) ?_
          exact ih_4 0 (t + 1) ls ⟨(by omega), (by omega), (by rw [bgn_s u k q1z.1, ← q3z]; first | rw [if_pos (by omega)] | rw [if_neg (by omega)]), (by omega)⟩ (show (32 - (t + 1)).toNat < (32 - t).toNat by omega) (lv_sub hl [2, 3, 1, 0] rfl)
        · refine z_iconst hx hb dX1_isBeginning_41 ?_
          refine lv_goto (tgt := 46) hx hb dX1_isBeginning_42 (by decide) ?_
          refine lv_istore_n (lv' := [(2, .int (iI 1)), (0, .ref (gM g 0)), (1, .int (iI k)), (3, .int (iI t))]) hx hb dX1_isBeginning_46 rfl hl (by decide) rfl (fun ls hl => ?_)
          refine z_iinc (k := 3) (lv' := [(3, .int (iI (t + 1))), (2, .int (iI 1)), (0, .ref (gM g 0)), (1, .int (iI k))]) hx hb dX1_isBeginning_47 hl rfl (by decide) rfl (fun ls hl => ?_)
          refine lv_goto (tgt := 4) hx hb dX1_isBeginning_50 (by decide) ?_
          exact ih_4 1 (t + 1) ls ⟨(by omega), (by omega), (by rw [bgn_s u k q1z.1, ← q3z]; first | rw [if_pos (by omega)] | rw [if_neg (by omega)]), (by omega)⟩ (show (32 - (t + 1)).toNat < (32 - t).toNat by omega) (lv_sub hl [2, 3, 1, 0] rfl)
set_option maxHeartbeats 4000000 in
set_option maxRecDepth 100000 in
theorem c_X1_parse (l : Launch) (g : GG) (u : ST) (v : VT) (hg : gOk g) (hI : Inv u) : Met l yX1_parse wsX1_parse (k2_rm 3 67) (va_Pc [.ref (gM g 0)] (fun U => PM g u v U U.heap)) (va_Qv (fun (_ : Unit) => True) (fun _ t => (fun H9 => va_P (gD g) vwCl (wM g u (paV u v)) H9) t.heap) (aM g)) 0 0 (aM g) := by
  refine Met.ofW (cc := cX1_parse) (maxL := 5) (ret := none) (by decide) rfl ?_
  intro pp ee s mm args below meth cc9 s₁ B hml hv
  obtain ⟨rfl, hPX⟩ := hv
  obtain ⟨hP, hK⟩ := id hPX
  have hx := B.exec
  have hb := B.bytes
  have hr := B.returns
  have hts := atoms_spec (ws := wsX1_parse) B.pre
  have hown : s.vm.findClass RX1 = some mm.cls := findClass_of_methodNamed B.named
  have hlocks := B.notSynchronized
  have hin : ∀ w ∈ wsX10, w ∈ wsX1_parse := fun w h => List.mem_cons_of_mem _ (List.mem_append_right _ h)
  have m53 : Cond.fieldLink RX1 53 "TraverseBoardModel" "bufferLength" "I" ∈ wsX1_parse := by decide +kernel
  have m7z : Cond.fieldLink RX1 7 "TraverseBoardModel" "buffer" "[I" ∈ wsX1_parse := by decide +kernel
  have m72 : Cond.fieldLink RX1 72 "TraverseBoardModel" "errorAt" "I" ∈ wsX1_parse := by decide +kernel
  have m75 : Cond.fieldLink RX1 75 "TraverseBoardModel" "isPeg" "Z" ∈ wsX1_parse := by decide +kernel
  have m82 : Cond.fieldLink RX1 82 "TraverseBoardModel" "readPoint" "I" ∈ wsX1_parse := by decide +kernel
  have m85 : Cond.fieldLink RX1 85 "TraverseBoardModel" "readSpeed" "I" ∈ wsX1_parse := by decide +kernel
  have hS : va_S (aM g) s.heap s.heap [] := va_S.rf
  have hi_bl := iv_bl hI
  have hi_pg := iv_pg hI
  have hi_se := iv_se hI
  have hi_dr := iv_dr hI
  have hpb := pb_rng u
  have hl := lv_entry ([.ref (gM g 0)]) (n := 5) (Nat.le_of_ble_eq_true rfl)
  rw [lg_entry_eq]
  generalize (lg_sl ([.ref (gM g 0)]) ++ List.replicate (5 - (lg_sl ([.ref (gM g 0)])).length) Slot.unset).toArray = ls at hl ⊢
  have hl : lv_has ls 5 [(0, .ref (gM g 0))] := hl
  refine z_iconst hx hb dX1_parse_0 ?_
  refine lv_istore_n (lv' := [(1, .int (iI 0)), (0, .ref (gM g 0))]) hx hb dX1_parse_1 rfl hl (by decide) rfl (fun ls hl => ?_)
  refine z_loop1 (nL := 5) (fun k => (pk u k)) (fun k => (zbl u - k).toNat) (fun k => [(0, .ref (gM g 0)), (1, .int (iI k))]) (fun k ls hinv hl ih_2 => ?_) 0 ls (by exact pk_0 hI) (lv_sub hl [1, 0] rfl)
  have hinv : (pk u k) := hinv
  have pkk := hinv
  have hl : lv_has ls 5 [(0, .ref (gM g 0)), (1, .int (iI k))] := hl
  obtain ⟨pk1, pk2, pk3, pk4⟩ := id pkk
  refine lv_iload_n hx hb dX1_parse_2 rfl (lv_at hl 1 rfl) ?_
  refine lv_aload_n hx hb dX1_parse_3 rfl (lv_at hl 0 rfl) ?_
  refine gf_X1_53 (z := zbl u) hx hb hts hin m53 hown hK hP rfl dX1_parse_4 ?_
  refine z_icmp_ge (tgt := 37) hx hb dX1_parse_7 (by decide) (by omega) (by omega) (fun c_1 => ?_) (fun c_1 => ?_)
  · have hE := pk_end hI pkk (Or.inl (by omega))
    refine lv_aload_n hx hb dX1_parse_37 rfl (lv_at hl 0 rfl) ?_
    refine lv_iload_n hx hb dX1_parse_38 rfl (lv_at hl 1 rfl) ?_
    refine pf_X1_72 hx hb hts hin m72 hown hK hP (wM_D hg _ _) hS dX1_parse_39 (fun H locs hP hS => ?_)
    refine lv_aload_n hx hb dX1_parse_42 rfl (lv_at hl 0 rfl) ?_
    refine z_iconst hx hb dX1_parse_43 ?_
    refine pf_X1_75 hx hb hts hin m75 hown hK hP (wM_D hg _ _) hS (by decide +kernel) dX1_parse_44 (fun H locs hP hS => ?_)
    refine lv_aload_n hx hb dX1_parse_47 rfl (lv_at hl 0 rfl) ?_
    refine lv_iload_n hx hb dX1_parse_48 rfl (lv_at hl 1 rfl) ?_
    refine lv_aload_n hx hb dX1_parse_49 rfl (lv_at hl 0 rfl) ?_
    refine gf_X1_53 (z := zbl u) hx hb hts hin m53 hown hK hP rfl dX1_parse_50 ?_
    refine z_icmp_ge (tgt := 75) hx hb dX1_parse_53 (by decide) (by omega) (by omega) (fun c_2 => ?_) (fun c_2 => (absurd c_2 (by omega)))
    refine z_iconst hx hb dX1_parse_75 ?_
    refine pf_X1_82 hx hb hts hin m82 hown hK hP (wM_D hg _ _) hS dX1_parse_76 (fun H locs hP hS => ?_)
    refine lv_aload_n hx hb dX1_parse_79 rfl (lv_at hl 0 rfl) ?_
    refine gf_X1_82 (z := (-1)) hx hb hts hin m82 hown hK hP rfl dX1_parse_80 ?_
    refine z_if_ge (tgt := 87) hx hb dX1_parse_83 (by decide) ⟨by decide, by decide⟩ (fun c_rp => (absurd c_rp (by decide))) (fun c_rp => ?_)
    exact zw_v (Post := (fun H9 => va_P (gD g) vwCl (wM g u (paV u v)) H9)) hx hb hr hlocks dX1_parse_86 hS (by first | (rw [paV, if_neg hE.2, hE.1]; exact hP) | (rcases hE with ⟨q1z, q2z, q3z, q4z⟩ | ⟨q1z, -⟩ <;> first | (exfalso; omega) | (rw [q2z] at hP; rw [paV, if_neg q4z, q3z]; exact hP)))
  · refine lv_aload_n hx hb dX1_parse_10 rfl (lv_at hl 0 rfl) ?_
    refine gf_X1_7 hx hb hts hin m7z hown hK hP dX1_parse_11 ?_
    refine lv_iload_n hx hb dX1_parse_14 rfl (lv_at hl 1 rfl) ?_
    refine al_X1_1 hx hb hK hP ⟨by omega, by omega⟩ dX1_parse_15 ?_
    have hv_4 := iv_bu hI k
    refine z_bipush hx hb dX1_parse_16 (by decide +kernel) ?_
    refine z_icmp_eq (tgt := 37) hx hb dX1_parse_18 (by decide) (by omega) ⟨by decide, by decide⟩ (fun c_5 => ?_) (fun c_5 => ?_)
    · have hE := pk_blank hI pkk (by omega) (by omega)
      refine lv_aload_n hx hb dX1_parse_37 rfl (lv_at hl 0 rfl) ?_
      refine lv_iload_n hx hb dX1_parse_38 rfl (lv_at hl 1 rfl) ?_
      refine pf_X1_72 hx hb hts hin m72 hown hK hP (wM_D hg _ _) hS dX1_parse_39 (fun H locs hP hS => ?_)
      refine lv_aload_n hx hb dX1_parse_42 rfl (lv_at hl 0 rfl) ?_
      refine z_iconst hx hb dX1_parse_43 ?_
      refine pf_X1_75 hx hb hts hin m75 hown hK hP (wM_D hg _ _) hS (by decide +kernel) dX1_parse_44 (fun H locs hP hS => ?_)
      refine lv_aload_n hx hb dX1_parse_47 rfl (lv_at hl 0 rfl) ?_
      refine lv_iload_n hx hb dX1_parse_48 rfl (lv_at hl 1 rfl) ?_
      refine lv_aload_n hx hb dX1_parse_49 rfl (lv_at hl 0 rfl) ?_
      refine gf_X1_53 (z := zbl u) hx hb hts hin m53 hown hK hP rfl dX1_parse_50 ?_
      refine z_icmp_ge (tgt := 75) hx hb dX1_parse_53 (by decide) (by omega) (by omega) (fun c_6 => (absurd c_6 (by omega))) (fun c_6 => ?_)
      refine lv_aload_n hx hb dX1_parse_56 rfl (lv_at hl 0 rfl) ?_
      refine gf_X1_7 hx hb hts hin m7z hown hK hP dX1_parse_57 ?_
      refine lv_iload_n hx hb dX1_parse_60 rfl (lv_at hl 1 rfl) ?_
      refine al_X1_1 hx hb hK hP ⟨by omega, by omega⟩ dX1_parse_61 ?_
      have hv_7 := iv_bu hI k
      refine z_bipush hx hb dX1_parse_62 (by decide +kernel) ?_
      refine z_icmp_ne (tgt := 75) hx hb dX1_parse_64 (by decide) (by omega) ⟨by decide, by decide⟩ (fun c_8 => (absurd c_8 (by omega))) (fun c_8 => ?_)
      refine lv_aload_n hx hb dX1_parse_67 rfl (lv_at hl 0 rfl) ?_
      refine lv_iload_n hx hb dX1_parse_68 rfl (lv_at hl 1 rfl) ?_
      refine zV_i (As := [.int (iI k)]) (rest := [.ref (gM g 0)]) ⟨hx, hb, hml, hown, hts⟩ (PM g u (wip (wea v k) 0)) (PM_blind g u (wip (wea v k) 0)) (PM_mv hP hK) (rcM hK hP) (c_X1_pointBy l g u ((wip (wea v k) 0)) k hI (by omega) (by omega)) (cwV 1 hts gX1_parse_X1_pointBy rfl rfl rfl (by decide +kernel) ⟨Nat.le_of_ble_eq_true rfl, Nat.le_of_ble_eq_true rfl⟩) rfl hl.1 rfl (Nat.le_of_ble_eq_true rfl) dX1_parse_69 ⟨Nat.zero_le _, Nat.zero_le _⟩ ?_
      refine lv_goto (tgt := 76) hx hb dX1_parse_72 (by decide) ?_
      refine pf_X1_82 hx hb hts hin m82 hown hK hP (wM_D hg _ _) hS dX1_parse_76 (fun H locs hP hS => ?_)
      refine lv_aload_n hx hb dX1_parse_79 rfl (lv_at hl 0 rfl) ?_
      refine gf_X1_82 (z := py u k) hx hb hts hin m82 hown hK hP rfl dX1_parse_80 ?_
      refine z_if_ge (tgt := 87) hx hb dX1_parse_83 (by decide) (by omega) (fun c_rp => ?_) (fun c_rp => ?_)
      · refine z_iinc (k := 1) (lv' := [(1, .int (iI (k + 1))), (0, .ref (gM g 0))]) hx hb dX1_parse_87 hl rfl (by decide) rfl (fun ls hl => ?_)
        refine z_iconst hx hb dX1_parse_90 ?_
        refine lv_istore_n (lv' := [(2, .int (iI 0)), (1, .int (iI (k + 1))), (0, .ref (gM g 0))]) hx hb dX1_parse_91 rfl hl (by decide) rfl (fun ls hl => ?_)
        refine lv_aload_n hx hb dX1_parse_92 rfl (lv_at hl 2 rfl) ?_
        refine z_iconst hx hb dX1_parse_93 ?_
        refine pf_X1_85 hx hb hts hin m85 hown hK hP (wM_D hg _ _) hS dX1_parse_94 (fun H locs hP hS => ?_)
        refine z_iconst hx hb dX1_parse_97 ?_
        refine lv_istore_n (lv' := [(3, .int (iI 1)), (2, .int (iI 0)), (1, .int (iI (k + 1))), (0, .ref (gM g 0))]) hx hb dX1_parse_98 rfl hl (by decide) rfl (fun ls hl => ?_)
        refine z_loopW4 (nL := 5) (fun t dd go x => (k + 1 ≤ t ∧ t ≤ zbl u) ∧ (dd = t - (k + 1)) ∧ (x = num (zbu u) (k + 1) t) ∧ (0 ≤ x ∧ x ≤ 200) ∧ ((go = 1 ∧ ds u (k + 1) = dsn u (k + 1) (12 - (t - (k + 1))).toNat t) ∨ (go = 0 ∧ t < zbl u ∧ ds u (k + 1) = t))) (fun t dd go x => (2 * (zbl u - t) + go).toNat) (fun t dd go x => [(0, .ref (gM g 0)), (1, .int (iI t)), (2, .int (iI dd)), (3, .int (iI go))]) (fun t dd go x H9 => va_P (gD g) vwCl (wM g u (wrs (wrp (wip (wea v k) 0) (py u k)) x)) H9) (fun t dd go x H locs ls hinv hP hS hl ih_99 => ?_) (k + 1) 0 1 0 _ _ ls ⟨(by omega), (by omega), (by exact (num_0 (Int.le_refl _)).symm), (by omega), (by exact Or.inl ⟨rfl, by rw [Int.sub_self]; rfl⟩)⟩ hP hS (lv_sub hl [3, 2, 1, 0] rfl)
        have hinv : (k + 1 ≤ t ∧ t ≤ zbl u) ∧ (dd = t - (k + 1)) ∧ (x = num (zbu u) (k + 1) t) ∧ (0 ≤ x ∧ x ≤ 200) ∧ ((go = 1 ∧ ds u (k + 1) = dsn u (k + 1) (12 - (t - (k + 1))).toNat t) ∨ (go = 0 ∧ t < zbl u ∧ ds u (k + 1) = t)) := hinv
        obtain ⟨r1z, r2z, r3z, r4z, r5z⟩ := hinv
        have hl : lv_has ls 5 [(0, .ref (gM g 0)), (1, .int (iI t)), (2, .int (iI dd)), (3, .int (iI go))] := hl
        have hP : va_P (gD g) vwCl (wM g u (wrs (wrp (wip (wea v k) 0) (py u k)) x)) H := hP
        have hbt := iv_bu hI t
        have hz9 : t = k + 1 → num (zbu u) (k + 1) t = 0 := fun h => num_0 (by omega)
        refine lv_iload_n hx hb dX1_parse_99 rfl (lv_at hl 3 rfl) ?_
        refine z_if_eq (tgt := 215) hx hb dX1_parse_100 (by decide) (by omega) (fun c_go => ?_) (fun c_go => ?_)
        · have r8z : ds u (k + 1) = t := by rcases r5z with ⟨q, -⟩ | ⟨-, -, q⟩ <;> first | exact absurd (c_go.symm.trans q) (by decide) | exact q
          refine lv_aload_n hx hb dX1_parse_215 rfl (lv_at hl 0 rfl) ?_
          refine lv_iload_n hx hb dX1_parse_216 rfl (lv_at hl 1 rfl) ?_
          refine pf_X1_72 hx hb hts hin m72 hown hK hP (wM_D hg _ _) hS dX1_parse_217 (fun H locs hP hS => ?_)
          refine lv_aload_n hx hb dX1_parse_220 rfl (lv_at hl 0 rfl) ?_
          refine lv_iload_n hx hb dX1_parse_221 rfl (lv_at hl 3 rfl) ?_
          refine z_if_eq (tgt := 233) hx hb dX1_parse_222 (by decide) (by omega) (fun c_11 => ?_) (fun c_11 => (absurd c_11 (by omega)))
          refine z_iconst hx hb dX1_parse_233 ?_
          refine pf_X1_75 hx hb hts hin m75 hown hK hP (wM_D hg _ _) hS (by decide +kernel) dX1_parse_234 (fun H locs hP hS => ?_)
          exact zw_v (Post := (fun H9 => va_P (gD g) vwCl (wM g u (paV u v)) H9)) hx hb hr hlocks dX1_parse_237 hS (by rcases hE with ⟨q1z, -⟩ | ⟨q1z, q2z, q3z, q4z⟩ <;> first | (exfalso; omega) | (rw [q2z] at hP; rw [paV, if_pos q4z, q3z, r8z, ← r3z]; first | (rw [if_pos (by omega)]; exact hP) | (rw [if_neg (by omega)]; exact hP)))
        · have r6z : ds u (k + 1) = dsn u (k + 1) (12 - (t - (k + 1))).toNat t := by rcases r5z with ⟨-, q⟩ | ⟨q, -⟩ <;> first | exact q | exact absurd q c_go
          have r7z : go = 1 := by rcases r5z with ⟨q, -⟩ | ⟨q, -⟩ <;> first | exact q | exact absurd q c_go
          refine lv_iload_n hx hb dX1_parse_103 rfl (lv_at hl 1 rfl) ?_
          refine lv_aload_n hx hb dX1_parse_104 rfl (lv_at hl 0 rfl) ?_
          refine gf_X1_53 (z := zbl u) hx hb hts hin m53 hown hK hP rfl dX1_parse_105 ?_
          refine z_icmp_ge (tgt := 215) hx hb dX1_parse_108 (by decide) (by omega) (by omega) (fun c_12 => ?_) (fun c_12 => ?_)
          · have r8z : ds u (k + 1) = t := by rw [r6z]; exact dsn_stop (by omega) _
            refine lv_aload_n hx hb dX1_parse_215 rfl (lv_at hl 0 rfl) ?_
            refine lv_iload_n hx hb dX1_parse_216 rfl (lv_at hl 1 rfl) ?_
            refine pf_X1_72 hx hb hts hin m72 hown hK hP (wM_D hg _ _) hS dX1_parse_217 (fun H locs hP hS => ?_)
            refine lv_aload_n hx hb dX1_parse_220 rfl (lv_at hl 0 rfl) ?_
            refine lv_iload_n hx hb dX1_parse_221 rfl (lv_at hl 3 rfl) ?_
            refine z_if_eq (tgt := 233) hx hb dX1_parse_222 (by decide) (by omega) (fun c_13 => (absurd c_13 (by omega))) (fun c_13 => ?_)
            refine lv_iload_n hx hb dX1_parse_225 rfl (lv_at hl 2 rfl) ?_
            refine z_if_le (tgt := 233) hx hb dX1_parse_226 (by decide) (by omega) (fun c_14 => ?_) (fun c_14 => ?_)
            · refine z_iconst hx hb dX1_parse_233 ?_
              refine pf_X1_75 hx hb hts hin m75 hown hK hP (wM_D hg _ _) hS (by decide +kernel) dX1_parse_234 (fun H locs hP hS => ?_)
              exact zw_v (Post := (fun H9 => va_P (gD g) vwCl (wM g u (paV u v)) H9)) hx hb hr hlocks dX1_parse_237 hS (by rcases hE with ⟨q1z, -⟩ | ⟨q1z, q2z, q3z, q4z⟩ <;> first | (exfalso; omega) | (rw [q2z] at hP; rw [paV, if_pos q4z, q3z, r8z, ← r3z]; first | (rw [if_pos (by omega)]; exact hP) | (rw [if_neg (by omega)]; exact hP)))
            · refine z_iconst hx hb dX1_parse_229 ?_
              refine lv_goto (tgt := 234) hx hb dX1_parse_230 (by decide) ?_
              refine pf_X1_75 hx hb hts hin m75 hown hK hP (wM_D hg _ _) hS (by decide +kernel) dX1_parse_234 (fun H locs hP hS => ?_)
              exact zw_v (Post := (fun H9 => va_P (gD g) vwCl (wM g u (paV u v)) H9)) hx hb hr hlocks dX1_parse_237 hS (by rcases hE with ⟨q1z, -⟩ | ⟨q1z, q2z, q3z, q4z⟩ <;> first | (exfalso; omega) | (rw [q2z] at hP; rw [paV, if_pos q4z, q3z, r8z, ← r3z]; first | (rw [if_pos (by omega)]; exact hP) | (rw [if_neg (by omega)]; exact hP)))
          · refine z_bipush hx hb dX1_parse_111 (by decide +kernel) ?_
            refine lv_aload_n hx hb dX1_parse_113 rfl (lv_at hl 0 rfl) ?_
            refine gf_X1_85 (z := x) hx hb hts hin m85 hown hK hP rfl dX1_parse_114 ?_
            refine z_imul hx hb dX1_parse_117 ?_
            refine lv_aload_n hx hb dX1_parse_118 rfl (lv_at hl 0 rfl) ?_
            refine gf_X1_7 hx hb hts hin m7z hown hK hP dX1_parse_119 ?_
            refine lv_iload_n hx hb dX1_parse_122 rfl (lv_at hl 1 rfl) ?_
            refine al_X1_1 hx hb hK hP ⟨by omega, by omega⟩ dX1_parse_123 ?_
            have hv_15 := iv_bu hI t
            refine z_iadd hx hb dX1_parse_124 ?_
            refine z_bipush hx hb dX1_parse_125 (by decide +kernel) ?_
            refine z_isub hx hb dX1_parse_127 ?_
            refine lv_istore (lv' := [(4, .int (iI (((10 * x) + (zbu u t)) - 48))), (0, .ref (gM g 0)), (1, .int (iI t)), (2, .int (iI dd)), (3, .int (iI go))]) hx hb dX1_parse_128 hl (by decide) rfl (fun ls hl => ?_)
            refine lv_aload_n hx hb dX1_parse_130 rfl (lv_at hl 1 rfl) ?_
            refine gf_X1_7 hx hb hts hin m7z hown hK hP dX1_parse_131 ?_
            refine lv_iload_n hx hb dX1_parse_134 rfl (lv_at hl 2 rfl) ?_
            refine al_X1_1 hx hb hK hP ⟨by omega, by omega⟩ dX1_parse_135 ?_
            have hv_16 := iv_bu hI t
            refine z_bipush hx hb dX1_parse_136 (by decide +kernel) ?_
            refine z_bipush hx hb dX1_parse_138 (by decide +kernel) ?_
            refine zS_z (As := [.int (iI (zbu u t)), .int (iI 48), .int (iI 57)]) (rest := []) ⟨hx, hb, hml, hown, hts⟩ (PT) PT_blind PT_mv  (c_X1_within l g (zbu u t) 48 57 (by omega) (by omega) (by omega)) (va_cwS 3 hts gX1_parse_X1_within rfl rfl rfl (by decide +kernel) ⟨Nat.le_of_ble_eq_true rfl, Nat.le_of_ble_eq_true rfl⟩) rfl hl.1 rfl (Nat.le_of_ble_eq_true rfl) dX1_parse_140 ⟨Nat.zero_le _, Nat.zero_le _⟩ (fun c_17 => ?_) (fun c_17 => ?_)
            · refine z_if_eq (tgt := 169) hx hb dX1_parse_143 (by decide) ⟨by decide, by decide⟩ (fun c_18 => (absurd c_18 (by decide))) (fun c_18 => ?_)
              refine lv_iload_n hx hb dX1_parse_146 rfl (lv_at hl 3 rfl) ?_
              refine z_if_eq (tgt := 165) hx hb dX1_parse_147 (by decide) (by omega) (fun c_19 => ?_) (fun c_19 => ?_)
              · refine z_iconst hx hb dX1_parse_165 ?_
                refine lv_goto (tgt := 170) hx hb dX1_parse_166 (by decide) ?_
                refine lv_istore_n (lv' := [(3, .int (iI 1)), (4, .int (iI (((10 * x) + (zbu u t)) - 48))), (0, .ref (gM g 0)), (1, .int (iI t)), (2, .int (iI dd))]) hx hb dX1_parse_170 rfl hl (by decide) rfl (fun ls hl => ?_)
                refine lv_aload_n hx hb dX1_parse_171 rfl (lv_at hl 2 rfl) ?_
                refine lv_iload_n hx hb dX1_parse_172 rfl (lv_at hl 0 rfl) ?_
                refine z_if_eq (tgt := 181) hx hb dX1_parse_173 (by decide) ⟨by decide, by decide⟩ (fun c_20 => (absurd c_20 (by decide))) (fun c_20 => ?_)
                refine lv_iload hx hb dX1_parse_176 (lv_at hl 1 rfl) ?_
                refine lv_goto (tgt := 185) hx hb dX1_parse_178 (by decide) ?_
                refine pf_X1_85 hx hb hts hin m85 hown hK hP (wM_D hg _ _) hS dX1_parse_185 (fun H locs hP hS => ?_)
                refine lv_iload_n hx hb dX1_parse_188 rfl (lv_at hl 4 rfl) ?_
                refine lv_iload_n hx hb dX1_parse_189 rfl (lv_at hl 0 rfl) ?_
                refine z_if_eq (tgt := 197) hx hb dX1_parse_190 (by decide) ⟨by decide, by decide⟩ (fun c_21 => (absurd c_21 (by decide))) (fun c_21 => ?_)
                refine z_iconst hx hb dX1_parse_193 ?_
                refine lv_goto (tgt := 198) hx hb dX1_parse_194 (by decide) ?_
                refine z_iadd hx hb dX1_parse_198 ?_
                refine lv_istore_n (lv' := [(2, .int (iI (dd + 1))), (3, .int (iI 1)), (4, .int (iI (((10 * x) + (zbu u t)) - 48))), (0, .ref (gM g 0)), (1, .int (iI t))]) hx hb dX1_parse_199 rfl hl (by decide) rfl (fun ls hl => ?_)
                refine lv_iload_n hx hb dX1_parse_200 rfl (lv_at hl 4 rfl) ?_
                refine lv_iload_n hx hb dX1_parse_201 rfl (lv_at hl 1 rfl) ?_
                refine z_if_eq (tgt := 209) hx hb dX1_parse_202 (by decide) ⟨by decide, by decide⟩ (fun c_22 => (absurd c_22 (by decide))) (fun c_22 => ?_)
                refine z_iconst hx hb dX1_parse_205 ?_
                refine lv_goto (tgt := 210) hx hb dX1_parse_206 (by decide) ?_
                refine z_iadd hx hb dX1_parse_210 ?_
                refine lv_istore_n (lv' := [(1, .int (iI (t + 1))), (2, .int (iI (dd + 1))), (3, .int (iI 1)), (4, .int (iI (((10 * x) + (zbu u t)) - 48))), (0, .ref (gM g 0))]) hx hb dX1_parse_211 rfl hl (by decide) rfl (fun ls hl => ?_)
                refine lv_goto (tgt := 99) hx hb dX1_parse_212 (by decide) ?_
                exact ih_99 (t + 1) (dd + 1) 1 (((10 * x) + (zbu u t)) - 48) _ _ ls ⟨(by omega), (by omega), (by first | (rw [num_s r1z.1, ← r3z]; done) | (rw [Int.add_zero]; exact r3z)), (by omega), (by first | exact Or.inl ⟨rfl, by rw [r6z, show (12 - (t - (k + 1))).toNat = (12 - (t + 1 - (k + 1))).toNat + 1 by omega]; exact dsn_go ⟨by omega, by rw [← r3z]; omega⟩ _⟩ | exact Or.inr ⟨rfl, by omega, by rw [Int.add_zero, r6z]; exact dsn_stop (by rw [← r3z]; omega) _⟩)⟩ hP hS (show (2 * (zbl u - (t + 1)) + 1).toNat < (2 * (zbl u - t) + go).toNat by omega) (lv_sub hl [4, 0, 1, 2] rfl)
              · refine lv_aload_n hx hb dX1_parse_150 rfl (lv_at hl 1 rfl) ?_
                refine gf_X1_85 (z := x) hx hb hts hin m85 hown hK hP rfl dX1_parse_151 ?_
                refine z_if_le (tgt := 169) hx hb dX1_parse_154 (by decide) (by omega) (fun c_23 => ?_) (fun c_23 => ?_)
                · refine z_iconst hx hb dX1_parse_169 ?_
                  refine lv_istore_n (lv' := [(3, .int (iI 0)), (4, .int (iI (((10 * x) + (zbu u t)) - 48))), (0, .ref (gM g 0)), (1, .int (iI t)), (2, .int (iI dd))]) hx hb dX1_parse_170 rfl hl (by decide) rfl (fun ls hl => ?_)
                  refine lv_aload_n hx hb dX1_parse_171 rfl (lv_at hl 2 rfl) ?_
                  refine lv_iload_n hx hb dX1_parse_172 rfl (lv_at hl 0 rfl) ?_
                  refine z_if_eq (tgt := 181) hx hb dX1_parse_173 (by decide) ⟨by decide, by decide⟩ (fun c_24 => ?_) (fun c_24 => (absurd c_24 (by decide)))
                  refine lv_aload_n hx hb dX1_parse_181 rfl (lv_at hl 2 rfl) ?_
                  refine gf_X1_85 (z := x) hx hb hts hin m85 hown hK hP rfl dX1_parse_182 ?_
                  refine pf_X1_85 hx hb hts hin m85 hown hK hP (wM_D hg _ _) hS dX1_parse_185 (fun H locs hP hS => ?_)
                  refine lv_iload_n hx hb dX1_parse_188 rfl (lv_at hl 4 rfl) ?_
                  refine lv_iload_n hx hb dX1_parse_189 rfl (lv_at hl 0 rfl) ?_
                  refine z_if_eq (tgt := 197) hx hb dX1_parse_190 (by decide) ⟨by decide, by decide⟩ (fun c_25 => ?_) (fun c_25 => (absurd c_25 (by decide)))
                  refine z_iconst hx hb dX1_parse_197 ?_
                  refine z_iadd hx hb dX1_parse_198 ?_
                  refine lv_istore_n (lv' := [(2, .int (iI (dd + 0))), (3, .int (iI 0)), (4, .int (iI (((10 * x) + (zbu u t)) - 48))), (0, .ref (gM g 0)), (1, .int (iI t))]) hx hb dX1_parse_199 rfl hl (by decide) rfl (fun ls hl => ?_)
                  refine lv_iload_n hx hb dX1_parse_200 rfl (lv_at hl 4 rfl) ?_
                  refine lv_iload_n hx hb dX1_parse_201 rfl (lv_at hl 1 rfl) ?_
                  refine z_if_eq (tgt := 209) hx hb dX1_parse_202 (by decide) ⟨by decide, by decide⟩ (fun c_26 => ?_) (fun c_26 => (absurd c_26 (by decide)))
                  refine z_iconst hx hb dX1_parse_209 ?_
                  refine z_iadd hx hb dX1_parse_210 ?_
                  refine lv_istore_n (lv' := [(1, .int (iI (t + 0))), (2, .int (iI (dd + 0))), (3, .int (iI 0)), (4, .int (iI (((10 * x) + (zbu u t)) - 48))), (0, .ref (gM g 0))]) hx hb dX1_parse_211 rfl hl (by decide) rfl (fun ls hl => ?_)
                  refine lv_goto (tgt := 99) hx hb dX1_parse_212 (by decide) ?_
                  exact ih_99 (t + 0) (dd + 0) 0 x _ _ ls ⟨(by omega), (by omega), (by first | (rw [num_s r1z.1, ← r3z]; done) | (rw [Int.add_zero]; exact r3z)), (by omega), (by first | exact Or.inl ⟨rfl, by rw [r6z, show (12 - (t - (k + 1))).toNat = (12 - (t + 1 - (k + 1))).toNat + 1 by omega]; exact dsn_go ⟨by omega, by rw [← r3z]; omega⟩ _⟩ | exact Or.inr ⟨rfl, by omega, by rw [Int.add_zero, r6z]; exact dsn_stop (by rw [← r3z]; omega) _⟩)⟩ hP hS (show (2 * (zbl u - (t + 0)) + 0).toNat < (2 * (zbl u - t) + go).toNat by omega) (lv_sub hl [4, 0, 1, 2] rfl)
                · refine lv_iload hx hb dX1_parse_157 (lv_at hl 0 rfl) ?_
                  refine z_sipush hx hb dX1_parse_159 (by decide +kernel) ?_
                  refine z_icmp_gt (tgt := 169) hx hb dX1_parse_162 (by decide) (by omega) ⟨by decide, by decide⟩ (fun c_27 => ?_) (fun c_27 => ?_)
                  · refine z_iconst hx hb dX1_parse_169 ?_
                    refine lv_istore_n (lv' := [(3, .int (iI 0)), (4, .int (iI (((10 * x) + (zbu u t)) - 48))), (0, .ref (gM g 0)), (1, .int (iI t)), (2, .int (iI dd))]) hx hb dX1_parse_170 rfl hl (by decide) rfl (fun ls hl => ?_)
                    refine lv_aload_n hx hb dX1_parse_171 rfl (lv_at hl 2 rfl) ?_
                    refine lv_iload_n hx hb dX1_parse_172 rfl (lv_at hl 0 rfl) ?_
                    refine z_if_eq (tgt := 181) hx hb dX1_parse_173 (by decide) ⟨by decide, by decide⟩ (fun c_28 => ?_) (fun c_28 => (absurd c_28 (by decide)))
                    refine lv_aload_n hx hb dX1_parse_181 rfl (lv_at hl 2 rfl) ?_
                    refine gf_X1_85 (z := x) hx hb hts hin m85 hown hK hP rfl dX1_parse_182 ?_
                    refine pf_X1_85 hx hb hts hin m85 hown hK hP (wM_D hg _ _) hS dX1_parse_185 (fun H locs hP hS => ?_)
                    refine lv_iload_n hx hb dX1_parse_188 rfl (lv_at hl 4 rfl) ?_
                    refine lv_iload_n hx hb dX1_parse_189 rfl (lv_at hl 0 rfl) ?_
                    refine z_if_eq (tgt := 197) hx hb dX1_parse_190 (by decide) ⟨by decide, by decide⟩ (fun c_29 => ?_) (fun c_29 => (absurd c_29 (by decide)))
                    refine z_iconst hx hb dX1_parse_197 ?_
                    refine z_iadd hx hb dX1_parse_198 ?_
                    refine lv_istore_n (lv' := [(2, .int (iI (dd + 0))), (3, .int (iI 0)), (4, .int (iI (((10 * x) + (zbu u t)) - 48))), (0, .ref (gM g 0)), (1, .int (iI t))]) hx hb dX1_parse_199 rfl hl (by decide) rfl (fun ls hl => ?_)
                    refine lv_iload_n hx hb dX1_parse_200 rfl (lv_at hl 4 rfl) ?_
                    refine lv_iload_n hx hb dX1_parse_201 rfl (lv_at hl 1 rfl) ?_
                    refine z_if_eq (tgt := 209) hx hb dX1_parse_202 (by decide) ⟨by decide, by decide⟩ (fun c_30 => ?_) (fun c_30 => (absurd c_30 (by decide)))
                    refine z_iconst hx hb dX1_parse_209 ?_
                    refine z_iadd hx hb dX1_parse_210 ?_
                    refine lv_istore_n (lv' := [(1, .int (iI (t + 0))), (2, .int (iI (dd + 0))), (3, .int (iI 0)), (4, .int (iI (((10 * x) + (zbu u t)) - 48))), (0, .ref (gM g 0))]) hx hb dX1_parse_211 rfl hl (by decide) rfl (fun ls hl => ?_)
                    refine lv_goto (tgt := 99) hx hb dX1_parse_212 (by decide) ?_
                    exact ih_99 (t + 0) (dd + 0) 0 x _ _ ls ⟨(by omega), (by omega), (by first | (rw [num_s r1z.1, ← r3z]; done) | (rw [Int.add_zero]; exact r3z)), (by omega), (by first | exact Or.inl ⟨rfl, by rw [r6z, show (12 - (t - (k + 1))).toNat = (12 - (t + 1 - (k + 1))).toNat + 1 by omega]; exact dsn_go ⟨by omega, by rw [← r3z]; omega⟩ _⟩ | exact Or.inr ⟨rfl, by omega, by rw [Int.add_zero, r6z]; exact dsn_stop (by rw [← r3z]; omega) _⟩)⟩ hP hS (show (2 * (zbl u - (t + 0)) + 0).toNat < (2 * (zbl u - t) + go).toNat by omega) (lv_sub hl [4, 0, 1, 2] rfl)
                  · refine z_iconst hx hb dX1_parse_165 ?_
                    refine lv_goto (tgt := 170) hx hb dX1_parse_166 (by decide) ?_
                    refine lv_istore_n (lv' := [(3, .int (iI 1)), (4, .int (iI (((10 * x) + (zbu u t)) - 48))), (0, .ref (gM g 0)), (1, .int (iI t)), (2, .int (iI dd))]) hx hb dX1_parse_170 rfl hl (by decide) rfl (fun ls hl => ?_)
                    refine lv_aload_n hx hb dX1_parse_171 rfl (lv_at hl 2 rfl) ?_
                    refine lv_iload_n hx hb dX1_parse_172 rfl (lv_at hl 0 rfl) ?_
                    refine z_if_eq (tgt := 181) hx hb dX1_parse_173 (by decide) ⟨by decide, by decide⟩ (fun c_31 => (absurd c_31 (by decide))) (fun c_31 => ?_)
                    refine lv_iload hx hb dX1_parse_176 (lv_at hl 1 rfl) ?_
                    refine lv_goto (tgt := 185) hx hb dX1_parse_178 (by decide) ?_
                    refine pf_X1_85 hx hb hts hin m85 hown hK hP (wM_D hg _ _) hS dX1_parse_185 (fun H locs hP hS => ?_)
                    refine lv_iload_n hx hb dX1_parse_188 rfl (lv_at hl 4 rfl) ?_
                    refine lv_iload_n hx hb dX1_parse_189 rfl (lv_at hl 0 rfl) ?_
                    refine z_if_eq (tgt := 197) hx hb dX1_parse_190 (by decide) ⟨by decide, by decide⟩ (fun c_32 => (absurd c_32 (by decide))) (fun c_32 => ?_)
                    refine z_iconst hx hb dX1_parse_193 ?_
                    refine lv_goto (tgt := 198) hx hb dX1_parse_194 (by decide) ?_
                    refine z_iadd hx hb dX1_parse_198 ?_
                    refine lv_istore_n (lv' := [(2, .int (iI (dd + 1))), (3, .int (iI 1)), (4, .int (iI (((10 * x) + (zbu u t)) - 48))), (0, .ref (gM g 0)), (1, .int (iI t))]) hx hb dX1_parse_199 rfl hl (by decide) rfl (fun ls hl => ?_)
                    refine lv_iload_n hx hb dX1_parse_200 rfl (lv_at hl 4 rfl) ?_
                    refine lv_iload_n hx hb dX1_parse_201 rfl (lv_at hl 1 rfl) ?_
                    refine z_if_eq (tgt := 209) hx hb dX1_parse_202 (by decide) ⟨by decide, by decide⟩ (fun c_33 => (absurd c_33 (by decide))) (fun c_33 => ?_)
                    refine z_iconst hx hb dX1_parse_205 ?_
                    refine lv_goto (tgt := 210) hx hb dX1_parse_206 (by decide) ?_
                    refine z_iadd hx hb dX1_parse_210 ?_
                    refine lv_istore_n (lv' := [(1, .int (iI (t + 1))), (2, .int (iI (dd + 1))), (3, .int (iI 1)), (4, .int (iI (((10 * x) + (zbu u t)) - 48))), (0, .ref (gM g 0))]) hx hb dX1_parse_211 rfl hl (by decide) rfl (fun ls hl => ?_)
                    refine lv_goto (tgt := 99) hx hb dX1_parse_212 (by decide) ?_
                    exact ih_99 (t + 1) (dd + 1) 1 (((10 * x) + (zbu u t)) - 48) _ _ ls ⟨(by omega), (by omega), (by first | (rw [num_s r1z.1, ← r3z]; done) | (rw [Int.add_zero]; exact r3z)), (by omega), (by first | exact Or.inl ⟨rfl, by rw [r6z, show (12 - (t - (k + 1))).toNat = (12 - (t + 1 - (k + 1))).toNat + 1 by omega]; exact dsn_go ⟨by omega, by rw [← r3z]; omega⟩ _⟩ | exact Or.inr ⟨rfl, by omega, by rw [Int.add_zero, r6z]; exact dsn_stop (by rw [← r3z]; omega) _⟩)⟩ hP hS (show (2 * (zbl u - (t + 1)) + 1).toNat < (2 * (zbl u - t) + go).toNat by omega) (lv_sub hl [4, 0, 1, 2] rfl)
            · refine z_if_eq (tgt := 169) hx hb dX1_parse_143 (by decide) ⟨by decide, by decide⟩ (fun c_34 => ?_) (fun c_34 => (absurd c_34 (by decide)))
              refine z_iconst hx hb dX1_parse_169 ?_
              refine lv_istore_n (lv' := [(3, .int (iI 0)), (4, .int (iI (((10 * x) + (zbu u t)) - 48))), (0, .ref (gM g 0)), (1, .int (iI t)), (2, .int (iI dd))]) hx hb dX1_parse_170 rfl hl (by decide) rfl (fun ls hl => ?_)
              refine lv_aload_n hx hb dX1_parse_171 rfl (lv_at hl 2 rfl) ?_
              refine lv_iload_n hx hb dX1_parse_172 rfl (lv_at hl 0 rfl) ?_
              refine z_if_eq (tgt := 181) hx hb dX1_parse_173 (by decide) ⟨by decide, by decide⟩ (fun c_35 => ?_) (fun c_35 => (absurd c_35 (by decide)))
              refine lv_aload_n hx hb dX1_parse_181 rfl (lv_at hl 2 rfl) ?_
              refine gf_X1_85 (z := x) hx hb hts hin m85 hown hK hP rfl dX1_parse_182 ?_
              refine pf_X1_85 hx hb hts hin m85 hown hK hP (wM_D hg _ _) hS dX1_parse_185 (fun H locs hP hS => ?_)
              refine lv_iload_n hx hb dX1_parse_188 rfl (lv_at hl 4 rfl) ?_
              refine lv_iload_n hx hb dX1_parse_189 rfl (lv_at hl 0 rfl) ?_
              refine z_if_eq (tgt := 197) hx hb dX1_parse_190 (by decide) ⟨by decide, by decide⟩ (fun c_36 => ?_) (fun c_36 => (absurd c_36 (by decide)))
              refine z_iconst hx hb dX1_parse_197 ?_
              refine z_iadd hx hb dX1_parse_198 ?_
              refine lv_istore_n (lv' := [(2, .int (iI (dd + 0))), (3, .int (iI 0)), (4, .int (iI (((10 * x) + (zbu u t)) - 48))), (0, .ref (gM g 0)), (1, .int (iI t))]) hx hb dX1_parse_199 rfl hl (by decide) rfl (fun ls hl => ?_)
              refine lv_iload_n hx hb dX1_parse_200 rfl (lv_at hl 4 rfl) ?_
              refine lv_iload_n hx hb dX1_parse_201 rfl (lv_at hl 1 rfl) ?_
              refine z_if_eq (tgt := 209) hx hb dX1_parse_202 (by decide) ⟨by decide, by decide⟩ (fun c_37 => ?_) (fun c_37 => (absurd c_37 (by decide)))
              refine z_iconst hx hb dX1_parse_209 ?_
              refine z_iadd hx hb dX1_parse_210 ?_
              refine lv_istore_n (lv' := [(1, .int (iI (t + 0))), (2, .int (iI (dd + 0))), (3, .int (iI 0)), (4, .int (iI (((10 * x) + (zbu u t)) - 48))), (0, .ref (gM g 0))]) hx hb dX1_parse_211 rfl hl (by decide) rfl (fun ls hl => ?_)
              refine lv_goto (tgt := 99) hx hb dX1_parse_212 (by decide) ?_
              exact ih_99 (t + 0) (dd + 0) 0 x _ _ ls ⟨(by omega), (by omega), (by first | (rw [num_s r1z.1, ← r3z]; done) | (rw [Int.add_zero]; exact r3z)), (by omega), (by first | exact Or.inl ⟨rfl, by rw [r6z, show (12 - (t - (k + 1))).toNat = (12 - (t + 1 - (k + 1))).toNat + 1 by omega]; exact dsn_go ⟨by omega, by rw [← r3z]; omega⟩ _⟩ | exact Or.inr ⟨rfl, by omega, by rw [Int.add_zero, r6z]; exact dsn_stop (by rw [← r3z]; omega) _⟩)⟩ hP hS (show (2 * (zbl u - (t + 0)) + 0).toNat < (2 * (zbl u - t) + go).toNat by omega) (lv_sub hl [4, 0, 1, 2] rfl)
      · exact zw_v (Post := (fun H9 => va_P (gD g) vwCl (wM g u (paV u v)) H9)) hx hb hr hlocks dX1_parse_86 hS (by first | (rw [paV, if_neg hE.2, hE.1]; exact hP) | (rcases hE with ⟨q1z, q2z, q3z, q4z⟩ | ⟨q1z, -⟩ <;> first | (exfalso; omega) | (rw [q2z] at hP; rw [paV, if_neg q4z, q3z]; exact hP)))
    · refine lv_aload_n hx hb dX1_parse_21 rfl (lv_at hl 0 rfl) ?_
      refine lv_iload_n hx hb dX1_parse_22 rfl (lv_at hl 1 rfl) ?_
      refine z_iconst hx hb dX1_parse_23 ?_
      refine z_iadd hx hb dX1_parse_24 ?_
      refine zV_z (As := [.int (iI (k + 1))]) (rest := []) ⟨hx, hb, hml, hown, hts⟩ (PM g u v) (PM_blind g u v) (PM_mv hP hK) (rcM hK hP) (c_X1_isBeginning l g u v (k + 1) hI (by omega) (by omega)) (cwV 1 hts gX1_parse_X1_isBeginning rfl rfl rfl (by decide +kernel) ⟨Nat.le_of_ble_eq_true rfl, Nat.le_of_ble_eq_true rfl⟩) rfl hl.1 rfl (Nat.le_of_ble_eq_true rfl) dX1_parse_25 ⟨Nat.zero_le _, Nat.zero_le _⟩ (fun cb => ?_) (fun cb => ?_)
      · refine z_if_eq (tgt := 37) hx hb dX1_parse_28 (by decide) ⟨by decide, by decide⟩ (fun c_39 => (absurd c_39 (by decide))) (fun c_39 => ?_)
        refine z_iinc (k := 1) (lv' := [(1, .int (iI (k + 1))), (0, .ref (gM g 0))]) hx hb dX1_parse_31 hl rfl (by decide) rfl (fun ls hl => ?_)
        refine lv_goto (tgt := 2) hx hb dX1_parse_34 (by decide) ?_
        exact ih_2 (k + 1) ls (by exact pk_go hI pkk (by omega) (by omega) cb.1 cb.2) (show (zbl u - (k + 1)).toNat < (zbl u - k).toNat by omega) (lv_sub hl [1, 0] rfl)
      · have hE := pk_end hI pkk (Or.inr ⟨by omega, by omega, cb⟩)
        refine z_if_eq (tgt := 37) hx hb dX1_parse_28 (by decide) ⟨by decide, by decide⟩ (fun c_40 => ?_) (fun c_40 => (absurd c_40 (by decide)))
        refine lv_aload_n hx hb dX1_parse_37 rfl (lv_at hl 0 rfl) ?_
        refine lv_iload_n hx hb dX1_parse_38 rfl (lv_at hl 1 rfl) ?_
        refine pf_X1_72 hx hb hts hin m72 hown hK hP (wM_D hg _ _) hS dX1_parse_39 (fun H locs hP hS => ?_)
        refine lv_aload_n hx hb dX1_parse_42 rfl (lv_at hl 0 rfl) ?_
        refine z_iconst hx hb dX1_parse_43 ?_
        refine pf_X1_75 hx hb hts hin m75 hown hK hP (wM_D hg _ _) hS (by decide +kernel) dX1_parse_44 (fun H locs hP hS => ?_)
        refine lv_aload_n hx hb dX1_parse_47 rfl (lv_at hl 0 rfl) ?_
        refine lv_iload_n hx hb dX1_parse_48 rfl (lv_at hl 1 rfl) ?_
        refine lv_aload_n hx hb dX1_parse_49 rfl (lv_at hl 0 rfl) ?_
        refine gf_X1_53 (z := zbl u) hx hb hts hin m53 hown hK hP rfl dX1_parse_50 ?_
        refine z_icmp_ge (tgt := 75) hx hb dX1_parse_53 (by decide) (by omega) (by omega) (fun c_41 => ?_) (fun c_41 => ?_)
        · refine z_iconst hx hb dX1_parse_75 ?_
          refine pf_X1_82 hx hb hts hin m82 hown hK hP (wM_D hg _ _) hS dX1_parse_76 (fun H locs hP hS => ?_)
          refine lv_aload_n hx hb dX1_parse_79 rfl (lv_at hl 0 rfl) ?_
          refine gf_X1_82 (z := (-1)) hx hb hts hin m82 hown hK hP rfl dX1_parse_80 ?_
          refine z_if_ge (tgt := 87) hx hb dX1_parse_83 (by decide) ⟨by decide, by decide⟩ (fun c_rp => (absurd c_rp (by decide))) (fun c_rp => ?_)
          exact zw_v (Post := (fun H9 => va_P (gD g) vwCl (wM g u (paV u v)) H9)) hx hb hr hlocks dX1_parse_86 hS (by first | (rw [paV, if_neg hE.2, hE.1]; exact hP) | (rcases hE with ⟨q1z, q2z, q3z, q4z⟩ | ⟨q1z, -⟩ <;> first | (exfalso; omega) | (rw [q2z] at hP; rw [paV, if_neg q4z, q3z]; exact hP)))
        · refine lv_aload_n hx hb dX1_parse_56 rfl (lv_at hl 0 rfl) ?_
          refine gf_X1_7 hx hb hts hin m7z hown hK hP dX1_parse_57 ?_
          refine lv_iload_n hx hb dX1_parse_60 rfl (lv_at hl 1 rfl) ?_
          refine al_X1_1 hx hb hK hP ⟨by omega, by omega⟩ dX1_parse_61 ?_
          have hv_43 := iv_bu hI k
          refine z_bipush hx hb dX1_parse_62 (by decide +kernel) ?_
          refine z_icmp_ne (tgt := 75) hx hb dX1_parse_64 (by decide) (by omega) ⟨by decide, by decide⟩ (fun c_44 => ?_) (fun c_44 => ?_)
          · refine z_iconst hx hb dX1_parse_75 ?_
            refine pf_X1_82 hx hb hts hin m82 hown hK hP (wM_D hg _ _) hS dX1_parse_76 (fun H locs hP hS => ?_)
            refine lv_aload_n hx hb dX1_parse_79 rfl (lv_at hl 0 rfl) ?_
            refine gf_X1_82 (z := (-1)) hx hb hts hin m82 hown hK hP rfl dX1_parse_80 ?_
            refine z_if_ge (tgt := 87) hx hb dX1_parse_83 (by decide) ⟨by decide, by decide⟩ (fun c_rp => (absurd c_rp (by decide))) (fun c_rp => ?_)
            exact zw_v (Post := (fun H9 => va_P (gD g) vwCl (wM g u (paV u v)) H9)) hx hb hr hlocks dX1_parse_86 hS (by first | (rw [paV, if_neg hE.2, hE.1]; exact hP) | (rcases hE with ⟨q1z, q2z, q3z, q4z⟩ | ⟨q1z, -⟩ <;> first | (exfalso; omega) | (rw [q2z] at hP; rw [paV, if_neg q4z, q3z]; exact hP)))
          · refine lv_aload_n hx hb dX1_parse_67 rfl (lv_at hl 0 rfl) ?_
            refine lv_iload_n hx hb dX1_parse_68 rfl (lv_at hl 1 rfl) ?_
            refine zV_i (As := [.int (iI k)]) (rest := [.ref (gM g 0)]) ⟨hx, hb, hml, hown, hts⟩ (PM g u (wip (wea v k) 0)) (PM_blind g u (wip (wea v k) 0)) (PM_mv hP hK) (rcM hK hP) (c_X1_pointBy l g u ((wip (wea v k) 0)) k hI (by omega) (by omega)) (cwV 1 hts gX1_parse_X1_pointBy rfl rfl rfl (by decide +kernel) ⟨Nat.le_of_ble_eq_true rfl, Nat.le_of_ble_eq_true rfl⟩) rfl hl.1 rfl (Nat.le_of_ble_eq_true rfl) dX1_parse_69 ⟨Nat.zero_le _, Nat.zero_le _⟩ ?_
            refine lv_goto (tgt := 76) hx hb dX1_parse_72 (by decide) ?_
            refine pf_X1_82 hx hb hts hin m82 hown hK hP (wM_D hg _ _) hS dX1_parse_76 (fun H locs hP hS => ?_)
            refine lv_aload_n hx hb dX1_parse_79 rfl (lv_at hl 0 rfl) ?_
            refine gf_X1_82 (z := py u k) hx hb hts hin m82 hown hK hP rfl dX1_parse_80 ?_
            refine z_if_ge (tgt := 87) hx hb dX1_parse_83 (by decide) (by omega) (fun c_rp => ?_) (fun c_rp => ?_)
            · refine z_iinc (k := 1) (lv' := [(1, .int (iI (k + 1))), (0, .ref (gM g 0))]) hx hb dX1_parse_87 hl rfl (by decide) rfl (fun ls hl => ?_)
              refine z_iconst hx hb dX1_parse_90 ?_
              refine lv_istore_n (lv' := [(2, .int (iI 0)), (1, .int (iI (k + 1))), (0, .ref (gM g 0))]) hx hb dX1_parse_91 rfl hl (by decide) rfl (fun ls hl => ?_)
              refine lv_aload_n hx hb dX1_parse_92 rfl (lv_at hl 2 rfl) ?_
              refine z_iconst hx hb dX1_parse_93 ?_
              refine pf_X1_85 hx hb hts hin m85 hown hK hP (wM_D hg _ _) hS dX1_parse_94 (fun H locs hP hS => ?_)
              refine z_iconst hx hb dX1_parse_97 ?_
              refine lv_istore_n (lv' := [(3, .int (iI 1)), (2, .int (iI 0)), (1, .int (iI (k + 1))), (0, .ref (gM g 0))]) hx hb dX1_parse_98 rfl hl (by decide) rfl (fun ls hl => ?_)
              refine z_loopW4 (nL := 5) (fun t dd go x => (k + 1 ≤ t ∧ t ≤ zbl u) ∧ (dd = t - (k + 1)) ∧ (x = num (zbu u) (k + 1) t) ∧ (0 ≤ x ∧ x ≤ 200) ∧ ((go = 1 ∧ ds u (k + 1) = dsn u (k + 1) (12 - (t - (k + 1))).toNat t) ∨ (go = 0 ∧ t < zbl u ∧ ds u (k + 1) = t))) (fun t dd go x => (2 * (zbl u - t) + go).toNat) (fun t dd go x => [(0, .ref (gM g 0)), (1, .int (iI t)), (2, .int (iI dd)), (3, .int (iI go))]) (fun t dd go x H9 => va_P (gD g) vwCl (wM g u (wrs (wrp (wip (wea v k) 0) (py u k)) x)) H9) (fun t dd go x H locs ls hinv hP hS hl ih_99 => ?_) (k + 1) 0 1 0 _ _ ls ⟨(by omega), (by omega), (by exact (num_0 (Int.le_refl _)).symm), (by omega), (by exact Or.inl ⟨rfl, by rw [Int.sub_self]; rfl⟩)⟩ hP hS (lv_sub hl [3, 2, 1, 0] rfl)
              have hinv : (k + 1 ≤ t ∧ t ≤ zbl u) ∧ (dd = t - (k + 1)) ∧ (x = num (zbu u) (k + 1) t) ∧ (0 ≤ x ∧ x ≤ 200) ∧ ((go = 1 ∧ ds u (k + 1) = dsn u (k + 1) (12 - (t - (k + 1))).toNat t) ∨ (go = 0 ∧ t < zbl u ∧ ds u (k + 1) = t)) := hinv
              obtain ⟨r1z, r2z, r3z, r4z, r5z⟩ := hinv
              have hl : lv_has ls 5 [(0, .ref (gM g 0)), (1, .int (iI t)), (2, .int (iI dd)), (3, .int (iI go))] := hl
              have hP : va_P (gD g) vwCl (wM g u (wrs (wrp (wip (wea v k) 0) (py u k)) x)) H := hP
              have hbt := iv_bu hI t
              have hz9 : t = k + 1 → num (zbu u) (k + 1) t = 0 := fun h => num_0 (by omega)
              refine lv_iload_n hx hb dX1_parse_99 rfl (lv_at hl 3 rfl) ?_
              refine z_if_eq (tgt := 215) hx hb dX1_parse_100 (by decide) (by omega) (fun c_go => ?_) (fun c_go => ?_)
              · have r8z : ds u (k + 1) = t := by rcases r5z with ⟨q, -⟩ | ⟨-, -, q⟩ <;> first | exact absurd (c_go.symm.trans q) (by decide) | exact q
                refine lv_aload_n hx hb dX1_parse_215 rfl (lv_at hl 0 rfl) ?_
                refine lv_iload_n hx hb dX1_parse_216 rfl (lv_at hl 1 rfl) ?_
                refine pf_X1_72 hx hb hts hin m72 hown hK hP (wM_D hg _ _) hS dX1_parse_217 (fun H locs hP hS => ?_)
                refine lv_aload_n hx hb dX1_parse_220 rfl (lv_at hl 0 rfl) ?_
                refine lv_iload_n hx hb dX1_parse_221 rfl (lv_at hl 3 rfl) ?_
                refine z_if_eq (tgt := 233) hx hb dX1_parse_222 (by decide) (by omega) (fun c_48 => ?_) (fun c_48 => (absurd c_48 (by omega)))
                refine z_iconst hx hb dX1_parse_233 ?_
                refine pf_X1_75 hx hb hts hin m75 hown hK hP (wM_D hg _ _) hS (by decide +kernel) dX1_parse_234 (fun H locs hP hS => ?_)
                exact zw_v (Post := (fun H9 => va_P (gD g) vwCl (wM g u (paV u v)) H9)) hx hb hr hlocks dX1_parse_237 hS (by rcases hE with ⟨q1z, -⟩ | ⟨q1z, q2z, q3z, q4z⟩ <;> first | (exfalso; omega) | (rw [q2z] at hP; rw [paV, if_pos q4z, q3z, r8z, ← r3z]; first | (rw [if_pos (by omega)]; exact hP) | (rw [if_neg (by omega)]; exact hP)))
              · have r6z : ds u (k + 1) = dsn u (k + 1) (12 - (t - (k + 1))).toNat t := by rcases r5z with ⟨-, q⟩ | ⟨q, -⟩ <;> first | exact q | exact absurd q c_go
                have r7z : go = 1 := by rcases r5z with ⟨q, -⟩ | ⟨q, -⟩ <;> first | exact q | exact absurd q c_go
                refine lv_iload_n hx hb dX1_parse_103 rfl (lv_at hl 1 rfl) ?_
                refine lv_aload_n hx hb dX1_parse_104 rfl (lv_at hl 0 rfl) ?_
                refine gf_X1_53 (z := zbl u) hx hb hts hin m53 hown hK hP rfl dX1_parse_105 ?_
                refine z_icmp_ge (tgt := 215) hx hb dX1_parse_108 (by decide) (by omega) (by omega) (fun c_49 => ?_) (fun c_49 => ?_)
                · have r8z : ds u (k + 1) = t := by rw [r6z]; exact dsn_stop (by omega) _
                  refine lv_aload_n hx hb dX1_parse_215 rfl (lv_at hl 0 rfl) ?_
                  refine lv_iload_n hx hb dX1_parse_216 rfl (lv_at hl 1 rfl) ?_
                  refine pf_X1_72 hx hb hts hin m72 hown hK hP (wM_D hg _ _) hS dX1_parse_217 (fun H locs hP hS => ?_)
                  refine lv_aload_n hx hb dX1_parse_220 rfl (lv_at hl 0 rfl) ?_
                  refine lv_iload_n hx hb dX1_parse_221 rfl (lv_at hl 3 rfl) ?_
                  refine z_if_eq (tgt := 233) hx hb dX1_parse_222 (by decide) (by omega) (fun c_50 => (absurd c_50 (by omega))) (fun c_50 => ?_)
                  refine lv_iload_n hx hb dX1_parse_225 rfl (lv_at hl 2 rfl) ?_
                  refine z_if_le (tgt := 233) hx hb dX1_parse_226 (by decide) (by omega) (fun c_51 => ?_) (fun c_51 => ?_)
                  · refine z_iconst hx hb dX1_parse_233 ?_
                    refine pf_X1_75 hx hb hts hin m75 hown hK hP (wM_D hg _ _) hS (by decide +kernel) dX1_parse_234 (fun H locs hP hS => ?_)
                    exact zw_v (Post := (fun H9 => va_P (gD g) vwCl (wM g u (paV u v)) H9)) hx hb hr hlocks dX1_parse_237 hS (by rcases hE with ⟨q1z, -⟩ | ⟨q1z, q2z, q3z, q4z⟩ <;> first | (exfalso; omega) | (rw [q2z] at hP; rw [paV, if_pos q4z, q3z, r8z, ← r3z]; first | (rw [if_pos (by omega)]; exact hP) | (rw [if_neg (by omega)]; exact hP)))
                  · refine z_iconst hx hb dX1_parse_229 ?_
                    refine lv_goto (tgt := 234) hx hb dX1_parse_230 (by decide) ?_
                    refine pf_X1_75 hx hb hts hin m75 hown hK hP (wM_D hg _ _) hS (by decide +kernel) dX1_parse_234 (fun H locs hP hS => ?_)
                    exact zw_v (Post := (fun H9 => va_P (gD g) vwCl (wM g u (paV u v)) H9)) hx hb hr hlocks dX1_parse_237 hS (by rcases hE with ⟨q1z, -⟩ | ⟨q1z, q2z, q3z, q4z⟩ <;> first | (exfalso; omega) | (rw [q2z] at hP; rw [paV, if_pos q4z, q3z, r8z, ← r3z]; first | (rw [if_pos (by omega)]; exact hP) | (rw [if_neg (by omega)]; exact hP)))
                · refine z_bipush hx hb dX1_parse_111 (by decide +kernel) ?_
                  refine lv_aload_n hx hb dX1_parse_113 rfl (lv_at hl 0 rfl) ?_
                  refine gf_X1_85 (z := x) hx hb hts hin m85 hown hK hP rfl dX1_parse_114 ?_
                  refine z_imul hx hb dX1_parse_117 ?_
                  refine lv_aload_n hx hb dX1_parse_118 rfl (lv_at hl 0 rfl) ?_
                  refine gf_X1_7 hx hb hts hin m7z hown hK hP dX1_parse_119 ?_
                  refine lv_iload_n hx hb dX1_parse_122 rfl (lv_at hl 1 rfl) ?_
                  refine al_X1_1 hx hb hK hP ⟨by omega, by omega⟩ dX1_parse_123 ?_
                  have hv_52 := iv_bu hI t
                  refine z_iadd hx hb dX1_parse_124 ?_
                  refine z_bipush hx hb dX1_parse_125 (by decide +kernel) ?_
                  refine z_isub hx hb dX1_parse_127 ?_
                  refine lv_istore (lv' := [(4, .int (iI (((10 * x) + (zbu u t)) - 48))), (0, .ref (gM g 0)), (1, .int (iI t)), (2, .int (iI dd)), (3, .int (iI go))]) hx hb dX1_parse_128 hl (by decide) rfl (fun ls hl => ?_)
                  refine lv_aload_n hx hb dX1_parse_130 rfl (lv_at hl 1 rfl) ?_
                  refine gf_X1_7 hx hb hts hin m7z hown hK hP dX1_parse_131 ?_
                  refine lv_iload_n hx hb dX1_parse_134 rfl (lv_at hl 2 rfl) ?_
                  refine al_X1_1 hx hb hK hP ⟨by omega, by omega⟩ dX1_parse_135 ?_
                  have hv_53 := iv_bu hI t
                  refine z_bipush hx hb dX1_parse_136 (by decide +kernel) ?_
                  refine z_bipush hx hb dX1_parse_138 (by decide +kernel) ?_
                  refine zS_z (As := [.int (iI (zbu u t)), .int (iI 48), .int (iI 57)]) (rest := []) ⟨hx, hb, hml, hown, hts⟩ (PT) PT_blind PT_mv  (c_X1_within l g (zbu u t) 48 57 (by omega) (by omega) (by omega)) (va_cwS 3 hts gX1_parse_X1_within rfl rfl rfl (by decide +kernel) ⟨Nat.le_of_ble_eq_true rfl, Nat.le_of_ble_eq_true rfl⟩) rfl hl.1 rfl (Nat.le_of_ble_eq_true rfl) dX1_parse_140 ⟨Nat.zero_le _, Nat.zero_le _⟩ (fun c_54 => ?_) (fun c_54 => ?_)
                  · refine z_if_eq (tgt := 169) hx hb dX1_parse_143 (by decide) ⟨by decide, by decide⟩ (fun c_55 => (absurd c_55 (by decide))) (fun c_55 => ?_)
                    refine lv_iload_n hx hb dX1_parse_146 rfl (lv_at hl 3 rfl) ?_
                    refine z_if_eq (tgt := 165) hx hb dX1_parse_147 (by decide) (by omega) (fun c_56 => ?_) (fun c_56 => ?_)
                    · refine z_iconst hx hb dX1_parse_165 ?_
                      refine lv_goto (tgt := 170) hx hb dX1_parse_166 (by decide) ?_
                      refine lv_istore_n (lv' := [(3, .int (iI 1)), (4, .int (iI (((10 * x) + (zbu u t)) - 48))), (0, .ref (gM g 0)), (1, .int (iI t)), (2, .int (iI dd))]) hx hb dX1_parse_170 rfl hl (by decide) rfl (fun ls hl => ?_)
                      refine lv_aload_n hx hb dX1_parse_171 rfl (lv_at hl 2 rfl) ?_
                      refine lv_iload_n hx hb dX1_parse_172 rfl (lv_at hl 0 rfl) ?_
                      refine z_if_eq (tgt := 181) hx hb dX1_parse_173 (by decide) ⟨by decide, by decide⟩ (fun c_57 => (absurd c_57 (by decide))) (fun c_57 => ?_)
                      refine lv_iload hx hb dX1_parse_176 (lv_at hl 1 rfl) ?_
                      refine lv_goto (tgt := 185) hx hb dX1_parse_178 (by decide) ?_
                      refine pf_X1_85 hx hb hts hin m85 hown hK hP (wM_D hg _ _) hS dX1_parse_185 (fun H locs hP hS => ?_)
                      refine lv_iload_n hx hb dX1_parse_188 rfl (lv_at hl 4 rfl) ?_
                      refine lv_iload_n hx hb dX1_parse_189 rfl (lv_at hl 0 rfl) ?_
                      refine z_if_eq (tgt := 197) hx hb dX1_parse_190 (by decide) ⟨by decide, by decide⟩ (fun c_58 => (absurd c_58 (by decide))) (fun c_58 => ?_)
                      refine z_iconst hx hb dX1_parse_193 ?_
                      refine lv_goto (tgt := 198) hx hb dX1_parse_194 (by decide) ?_
                      refine z_iadd hx hb dX1_parse_198 ?_
                      refine lv_istore_n (lv' := [(2, .int (iI (dd + 1))), (3, .int (iI 1)), (4, .int (iI (((10 * x) + (zbu u t)) - 48))), (0, .ref (gM g 0)), (1, .int (iI t))]) hx hb dX1_parse_199 rfl hl (by decide) rfl (fun ls hl => ?_)
                      refine lv_iload_n hx hb dX1_parse_200 rfl (lv_at hl 4 rfl) ?_
                      refine lv_iload_n hx hb dX1_parse_201 rfl (lv_at hl 1 rfl) ?_
                      refine z_if_eq (tgt := 209) hx hb dX1_parse_202 (by decide) ⟨by decide, by decide⟩ (fun c_59 => (absurd c_59 (by decide))) (fun c_59 => ?_)
                      refine z_iconst hx hb dX1_parse_205 ?_
                      refine lv_goto (tgt := 210) hx hb dX1_parse_206 (by decide) ?_
                      refine z_iadd hx hb dX1_parse_210 ?_
                      refine lv_istore_n (lv' := [(1, .int (iI (t + 1))), (2, .int (iI (dd + 1))), (3, .int (iI 1)), (4, .int (iI (((10 * x) + (zbu u t)) - 48))), (0, .ref (gM g 0))]) hx hb dX1_parse_211 rfl hl (by decide) rfl (fun ls hl => ?_)
                      refine lv_goto (tgt := 99) hx hb dX1_parse_212 (by decide) ?_
                      exact ih_99 (t + 1) (dd + 1) 1 (((10 * x) + (zbu u t)) - 48) _ _ ls ⟨(by omega), (by omega), (by first | (rw [num_s r1z.1, ← r3z]; done) | (rw [Int.add_zero]; exact r3z)), (by omega), (by first | exact Or.inl ⟨rfl, by rw [r6z, show (12 - (t - (k + 1))).toNat = (12 - (t + 1 - (k + 1))).toNat + 1 by omega]; exact dsn_go ⟨by omega, by rw [← r3z]; omega⟩ _⟩ | exact Or.inr ⟨rfl, by omega, by rw [Int.add_zero, r6z]; exact dsn_stop (by rw [← r3z]; omega) _⟩)⟩ hP hS (show (2 * (zbl u - (t + 1)) + 1).toNat < (2 * (zbl u - t) + go).toNat by omega) (lv_sub hl [4, 0, 1, 2] rfl)
                    · refine lv_aload_n hx hb dX1_parse_150 rfl (lv_at hl 1 rfl) ?_
                      refine gf_X1_85 (z := x) hx hb hts hin m85 hown hK hP rfl dX1_parse_151 ?_
                      refine z_if_le (tgt := 169) hx hb dX1_parse_154 (by decide) (by omega) (fun c_60 => ?_) (fun c_60 => ?_)
                      · refine z_iconst hx hb dX1_parse_169 ?_
                        refine lv_istore_n (lv' := [(3, .int (iI 0)), (4, .int (iI (((10 * x) + (zbu u t)) - 48))), (0, .ref (gM g 0)), (1, .int (iI t)), (2, .int (iI dd))]) hx hb dX1_parse_170 rfl hl (by decide) rfl (fun ls hl => ?_)
                        refine lv_aload_n hx hb dX1_parse_171 rfl (lv_at hl 2 rfl) ?_
                        refine lv_iload_n hx hb dX1_parse_172 rfl (lv_at hl 0 rfl) ?_
                        refine z_if_eq (tgt := 181) hx hb dX1_parse_173 (by decide) ⟨by decide, by decide⟩ (fun c_61 => ?_) (fun c_61 => (absurd c_61 (by decide)))
                        refine lv_aload_n hx hb dX1_parse_181 rfl (lv_at hl 2 rfl) ?_
                        refine gf_X1_85 (z := x) hx hb hts hin m85 hown hK hP rfl dX1_parse_182 ?_
                        refine pf_X1_85 hx hb hts hin m85 hown hK hP (wM_D hg _ _) hS dX1_parse_185 (fun H locs hP hS => ?_)
                        refine lv_iload_n hx hb dX1_parse_188 rfl (lv_at hl 4 rfl) ?_
                        refine lv_iload_n hx hb dX1_parse_189 rfl (lv_at hl 0 rfl) ?_
                        refine z_if_eq (tgt := 197) hx hb dX1_parse_190 (by decide) ⟨by decide, by decide⟩ (fun c_62 => ?_) (fun c_62 => (absurd c_62 (by decide)))
                        refine z_iconst hx hb dX1_parse_197 ?_
                        refine z_iadd hx hb dX1_parse_198 ?_
                        refine lv_istore_n (lv' := [(2, .int (iI (dd + 0))), (3, .int (iI 0)), (4, .int (iI (((10 * x) + (zbu u t)) - 48))), (0, .ref (gM g 0)), (1, .int (iI t))]) hx hb dX1_parse_199 rfl hl (by decide) rfl (fun ls hl => ?_)
                        refine lv_iload_n hx hb dX1_parse_200 rfl (lv_at hl 4 rfl) ?_
                        refine lv_iload_n hx hb dX1_parse_201 rfl (lv_at hl 1 rfl) ?_
                        refine z_if_eq (tgt := 209) hx hb dX1_parse_202 (by decide) ⟨by decide, by decide⟩ (fun c_63 => ?_) (fun c_63 => (absurd c_63 (by decide)))
                        refine z_iconst hx hb dX1_parse_209 ?_
                        refine z_iadd hx hb dX1_parse_210 ?_
                        refine lv_istore_n (lv' := [(1, .int (iI (t + 0))), (2, .int (iI (dd + 0))), (3, .int (iI 0)), (4, .int (iI (((10 * x) + (zbu u t)) - 48))), (0, .ref (gM g 0))]) hx hb dX1_parse_211 rfl hl (by decide) rfl (fun ls hl => ?_)
                        refine lv_goto (tgt := 99) hx hb dX1_parse_212 (by decide) ?_
                        exact ih_99 (t + 0) (dd + 0) 0 x _ _ ls ⟨(by omega), (by omega), (by first | (rw [num_s r1z.1, ← r3z]; done) | (rw [Int.add_zero]; exact r3z)), (by omega), (by first | exact Or.inl ⟨rfl, by rw [r6z, show (12 - (t - (k + 1))).toNat = (12 - (t + 1 - (k + 1))).toNat + 1 by omega]; exact dsn_go ⟨by omega, by rw [← r3z]; omega⟩ _⟩ | exact Or.inr ⟨rfl, by omega, by rw [Int.add_zero, r6z]; exact dsn_stop (by rw [← r3z]; omega) _⟩)⟩ hP hS (show (2 * (zbl u - (t + 0)) + 0).toNat < (2 * (zbl u - t) + go).toNat by omega) (lv_sub hl [4, 0, 1, 2] rfl)
                      · refine lv_iload hx hb dX1_parse_157 (lv_at hl 0 rfl) ?_
                        refine z_sipush hx hb dX1_parse_159 (by decide +kernel) ?_
                        refine z_icmp_gt (tgt := 169) hx hb dX1_parse_162 (by decide) (by omega) ⟨by decide, by decide⟩ (fun c_64 => ?_) (fun c_64 => ?_)
                        · refine z_iconst hx hb dX1_parse_169 ?_
                          refine lv_istore_n (lv' := [(3, .int (iI 0)), (4, .int (iI (((10 * x) + (zbu u t)) - 48))), (0, .ref (gM g 0)), (1, .int (iI t)), (2, .int (iI dd))]) hx hb dX1_parse_170 rfl hl (by decide) rfl (fun ls hl => ?_)
                          refine lv_aload_n hx hb dX1_parse_171 rfl (lv_at hl 2 rfl) ?_
                          refine lv_iload_n hx hb dX1_parse_172 rfl (lv_at hl 0 rfl) ?_
                          refine z_if_eq (tgt := 181) hx hb dX1_parse_173 (by decide) ⟨by decide, by decide⟩ (fun c_65 => ?_) (fun c_65 => (absurd c_65 (by decide)))
                          refine lv_aload_n hx hb dX1_parse_181 rfl (lv_at hl 2 rfl) ?_
                          refine gf_X1_85 (z := x) hx hb hts hin m85 hown hK hP rfl dX1_parse_182 ?_
                          refine pf_X1_85 hx hb hts hin m85 hown hK hP (wM_D hg _ _) hS dX1_parse_185 (fun H locs hP hS => ?_)
                          refine lv_iload_n hx hb dX1_parse_188 rfl (lv_at hl 4 rfl) ?_
                          refine lv_iload_n hx hb dX1_parse_189 rfl (lv_at hl 0 rfl) ?_
                          refine z_if_eq (tgt := 197) hx hb dX1_parse_190 (by decide) ⟨by decide, by decide⟩ (fun c_66 => ?_) (fun c_66 => (absurd c_66 (by decide)))
                          refine z_iconst hx hb dX1_parse_197 ?_
                          refine z_iadd hx hb dX1_parse_198 ?_
                          refine lv_istore_n (lv' := [(2, .int (iI (dd + 0))), (3, .int (iI 0)), (4, .int (iI (((10 * x) + (zbu u t)) - 48))), (0, .ref (gM g 0)), (1, .int (iI t))]) hx hb dX1_parse_199 rfl hl (by decide) rfl (fun ls hl => ?_)
                          refine lv_iload_n hx hb dX1_parse_200 rfl (lv_at hl 4 rfl) ?_
                          refine lv_iload_n hx hb dX1_parse_201 rfl (lv_at hl 1 rfl) ?_
                          refine z_if_eq (tgt := 209) hx hb dX1_parse_202 (by decide) ⟨by decide, by decide⟩ (fun c_67 => ?_) (fun c_67 => (absurd c_67 (by decide)))
                          refine z_iconst hx hb dX1_parse_209 ?_
                          refine z_iadd hx hb dX1_parse_210 ?_
                          refine lv_istore_n (lv' := [(1, .int (iI (t + 0))), (2, .int (iI (dd + 0))), (3, .int (iI 0)), (4, .int (iI (((10 * x) + (zbu u t)) - 48))), (0, .ref (gM g 0))]) hx hb dX1_parse_211 rfl hl (by decide) rfl (fun ls hl => ?_)
                          refine lv_goto (tgt := 99) hx hb dX1_parse_212 (by decide) ?_
                          exact ih_99 (t + 0) (dd + 0) 0 x _ _ ls ⟨(by omega), (by omega), (by first | (rw [num_s r1z.1, ← r3z]; done) | (rw [Int.add_zero]; exact r3z)), (by omega), (by first | exact Or.inl ⟨rfl, by rw [r6z, show (12 - (t - (k + 1))).toNat = (12 - (t + 1 - (k + 1))).toNat + 1 by omega]; exact dsn_go ⟨by omega, by rw [← r3z]; omega⟩ _⟩ | exact Or.inr ⟨rfl, by omega, by rw [Int.add_zero, r6z]; exact dsn_stop (by rw [← r3z]; omega) _⟩)⟩ hP hS (show (2 * (zbl u - (t + 0)) + 0).toNat < (2 * (zbl u - t) + go).toNat by omega) (lv_sub hl [4, 0, 1, 2] rfl)
                        · refine z_iconst hx hb dX1_parse_165 ?_
                          refine lv_goto (tgt := 170) hx hb dX1_parse_166 (by decide) ?_
                          refine lv_istore_n (lv' := [(3, .int (iI 1)), (4, .int (iI (((10 * x) + (zbu u t)) - 48))), (0, .ref (gM g 0)), (1, .int (iI t)), (2, .int (iI dd))]) hx hb dX1_parse_170 rfl hl (by decide) rfl (fun ls hl => ?_)
                          refine lv_aload_n hx hb dX1_parse_171 rfl (lv_at hl 2 rfl) ?_
                          refine lv_iload_n hx hb dX1_parse_172 rfl (lv_at hl 0 rfl) ?_
                          refine z_if_eq (tgt := 181) hx hb dX1_parse_173 (by decide) ⟨by decide, by decide⟩ (fun c_68 => (absurd c_68 (by decide))) (fun c_68 => ?_)
                          refine lv_iload hx hb dX1_parse_176 (lv_at hl 1 rfl) ?_
                          refine lv_goto (tgt := 185) hx hb dX1_parse_178 (by decide) ?_
                          refine pf_X1_85 hx hb hts hin m85 hown hK hP (wM_D hg _ _) hS dX1_parse_185 (fun H locs hP hS => ?_)
                          refine lv_iload_n hx hb dX1_parse_188 rfl (lv_at hl 4 rfl) ?_
                          refine lv_iload_n hx hb dX1_parse_189 rfl (lv_at hl 0 rfl) ?_
                          refine z_if_eq (tgt := 197) hx hb dX1_parse_190 (by decide) ⟨by decide, by decide⟩ (fun c_69 => (absurd c_69 (by decide))) (fun c_69 => ?_)
                          refine z_iconst hx hb dX1_parse_193 ?_
                          refine lv_goto (tgt := 198) hx hb dX1_parse_194 (by decide) ?_
                          refine z_iadd hx hb dX1_parse_198 ?_
                          refine lv_istore_n (lv' := [(2, .int (iI (dd + 1))), (3, .int (iI 1)), (4, .int (iI (((10 * x) + (zbu u t)) - 48))), (0, .ref (gM g 0)), (1, .int (iI t))]) hx hb dX1_parse_199 rfl hl (by decide) rfl (fun ls hl => ?_)
                          refine lv_iload_n hx hb dX1_parse_200 rfl (lv_at hl 4 rfl) ?_
                          refine lv_iload_n hx hb dX1_parse_201 rfl (lv_at hl 1 rfl) ?_
                          refine z_if_eq (tgt := 209) hx hb dX1_parse_202 (by decide) ⟨by decide, by decide⟩ (fun c_70 => (absurd c_70 (by decide))) (fun c_70 => ?_)
                          refine z_iconst hx hb dX1_parse_205 ?_
                          refine lv_goto (tgt := 210) hx hb dX1_parse_206 (by decide) ?_
                          refine z_iadd hx hb dX1_parse_210 ?_
                          refine lv_istore_n (lv' := [(1, .int (iI (t + 1))), (2, .int (iI (dd + 1))), (3, .int (iI 1)), (4, .int (iI (((10 * x) + (zbu u t)) - 48))), (0, .ref (gM g 0))]) hx hb dX1_parse_211 rfl hl (by decide) rfl (fun ls hl => ?_)
                          refine lv_goto (tgt := 99) hx hb dX1_parse_212 (by decide) ?_
                          exact ih_99 (t + 1) (dd + 1) 1 (((10 * x) + (zbu u t)) - 48) _ _ ls ⟨(by omega), (by omega), (by first | (rw [num_s r1z.1, ← r3z]; done) | (rw [Int.add_zero]; exact r3z)), (by omega), (by first | exact Or.inl ⟨rfl, by rw [r6z, show (12 - (t - (k + 1))).toNat = (12 - (t + 1 - (k + 1))).toNat + 1 by omega]; exact dsn_go ⟨by omega, by rw [← r3z]; omega⟩ _⟩ | exact Or.inr ⟨rfl, by omega, by rw [Int.add_zero, r6z]; exact dsn_stop (by rw [← r3z]; omega) _⟩)⟩ hP hS (show (2 * (zbl u - (t + 1)) + 1).toNat < (2 * (zbl u - t) + go).toNat by omega) (lv_sub hl [4, 0, 1, 2] rfl)
                  · refine z_if_eq (tgt := 169) hx hb dX1_parse_143 (by decide) ⟨by decide, by decide⟩ (fun c_71 => ?_) (fun c_71 => (absurd c_71 (by decide)))
                    refine z_iconst hx hb dX1_parse_169 ?_
                    refine lv_istore_n (lv' := [(3, .int (iI 0)), (4, .int (iI (((10 * x) + (zbu u t)) - 48))), (0, .ref (gM g 0)), (1, .int (iI t)), (2, .int (iI dd))]) hx hb dX1_parse_170 rfl hl (by decide) rfl (fun ls hl => ?_)
                    refine lv_aload_n hx hb dX1_parse_171 rfl (lv_at hl 2 rfl) ?_
                    refine lv_iload_n hx hb dX1_parse_172 rfl (lv_at hl 0 rfl) ?_
                    refine z_if_eq (tgt := 181) hx hb dX1_parse_173 (by decide) ⟨by decide, by decide⟩ (fun c_72 => ?_) (fun c_72 => (absurd c_72 (by decide)))
                    refine lv_aload_n hx hb dX1_parse_181 rfl (lv_at hl 2 rfl) ?_
                    refine gf_X1_85 (z := x) hx hb hts hin m85 hown hK hP rfl dX1_parse_182 ?_
                    refine pf_X1_85 hx hb hts hin m85 hown hK hP (wM_D hg _ _) hS dX1_parse_185 (fun H locs hP hS => ?_)
                    refine lv_iload_n hx hb dX1_parse_188 rfl (lv_at hl 4 rfl) ?_
                    refine lv_iload_n hx hb dX1_parse_189 rfl (lv_at hl 0 rfl) ?_
                    refine z_if_eq (tgt := 197) hx hb dX1_parse_190 (by decide) ⟨by decide, by decide⟩ (fun c_73 => ?_) (fun c_73 => (absurd c_73 (by decide)))
                    refine z_iconst hx hb dX1_parse_197 ?_
                    refine z_iadd hx hb dX1_parse_198 ?_
                    refine lv_istore_n (lv' := [(2, .int (iI (dd + 0))), (3, .int (iI 0)), (4, .int (iI (((10 * x) + (zbu u t)) - 48))), (0, .ref (gM g 0)), (1, .int (iI t))]) hx hb dX1_parse_199 rfl hl (by decide) rfl (fun ls hl => ?_)
                    refine lv_iload_n hx hb dX1_parse_200 rfl (lv_at hl 4 rfl) ?_
                    refine lv_iload_n hx hb dX1_parse_201 rfl (lv_at hl 1 rfl) ?_
                    refine z_if_eq (tgt := 209) hx hb dX1_parse_202 (by decide) ⟨by decide, by decide⟩ (fun c_74 => ?_) (fun c_74 => (absurd c_74 (by decide)))
                    refine z_iconst hx hb dX1_parse_209 ?_
                    refine z_iadd hx hb dX1_parse_210 ?_
                    refine lv_istore_n (lv' := [(1, .int (iI (t + 0))), (2, .int (iI (dd + 0))), (3, .int (iI 0)), (4, .int (iI (((10 * x) + (zbu u t)) - 48))), (0, .ref (gM g 0))]) hx hb dX1_parse_211 rfl hl (by decide) rfl (fun ls hl => ?_)
                    refine lv_goto (tgt := 99) hx hb dX1_parse_212 (by decide) ?_
                    exact ih_99 (t + 0) (dd + 0) 0 x _ _ ls ⟨(by omega), (by omega), (by first | (rw [num_s r1z.1, ← r3z]; done) | (rw [Int.add_zero]; exact r3z)), (by omega), (by first | exact Or.inl ⟨rfl, by rw [r6z, show (12 - (t - (k + 1))).toNat = (12 - (t + 1 - (k + 1))).toNat + 1 by omega]; exact dsn_go ⟨by omega, by rw [← r3z]; omega⟩ _⟩ | exact Or.inr ⟨rfl, by omega, by rw [Int.add_zero, r6z]; exact dsn_stop (by rw [← r3z]; omega) _⟩)⟩ hP hS (show (2 * (zbl u - (t + 0)) + 0).toNat < (2 * (zbl u - t) + go).toNat by omega) (lv_sub hl [4, 0, 1, 2] rfl)
            · exact zw_v (Post := (fun H9 => va_P (gD g) vwCl (wM g u (paV u v)) H9)) hx hb hr hlocks dX1_parse_86 hS (by first | (rw [paV, if_neg hE.2, hE.1]; exact hP) | (rcases hE with ⟨q1z, q2z, q3z, q4z⟩ | ⟨q1z, -⟩ <;> first | (exfalso; omega) | (rw [q2z] at hP; rw [paV, if_neg q4z, q3z]; exact hP)))
set_option maxHeartbeats 4000000 in
set_option maxRecDepth 100000 in
theorem c_X1_errorPosition (l : Launch) (g : GG) (u : ST) (v : VT) (hg : gOk g) (hI : Inv u) : Met l yX1_errorPosition wsX1_errorPosition (k2_rm 4 91) (va_Pc [.ref (gM g 0)] (fun U => PM g u v U U.heap)) (va_Ql (fun r (_ : Unit) => r = jI (ep u)) (fun _ t => (fun H9 => va_P (gD g) vwCl (wM g u (paV u v)) H9) t.heap) (aM g)) 0 0 (aM g) := by
  refine Met.ofW (cc := cX1_errorPosition) (maxL := 1) (ret := (some .long)) (by decide) rfl ?_
  intro pp ee s mm args below meth cc9 s₁ B hml hv
  obtain ⟨rfl, hPX⟩ := hv
  obtain ⟨hP, hK⟩ := id hPX
  have hx := B.exec
  have hb := B.bytes
  have hr := B.returns
  have hts := atoms_spec (ws := wsX1_errorPosition) B.pre
  have hown : s.vm.findClass RX1 = some mm.cls := findClass_of_methodNamed B.named
  have hlocks := B.notSynchronized
  have hin : ∀ w ∈ wsX10, w ∈ wsX1_errorPosition := fun w h => List.mem_cons_of_mem _ (List.mem_append_right _ h)
  have m72 : Cond.fieldLink RX1 72 "TraverseBoardModel" "errorAt" "I" ∈ wsX1_errorPosition := by decide +kernel
  have hS : va_S (aM g) s.heap s.heap [] := va_S.rf
  have hi_bl := iv_bl hI
  have hi_pg := iv_pg hI
  have hi_se := iv_se hI
  have hi_dr := iv_dr hI
  have hep := ep_rng hI
  have hpe := pa_ep u v
  have hl := lv_entry ([.ref (gM g 0)]) (n := 1) (Nat.le_of_ble_eq_true rfl)
  rw [lg_entry_eq]
  generalize (lg_sl ([.ref (gM g 0)]) ++ List.replicate (1 - (lg_sl ([.ref (gM g 0)])).length) Slot.unset).toArray = ls at hl ⊢
  have hl : lv_has ls 1 [(0, .ref (gM g 0))] := hl
  refine lv_aload_n hx hb dX1_errorPosition_0 rfl (lv_at hl 0 rfl) ?_
  refine zVw_v (As := []) (rest := []) ⟨hx, hb, hml, hown, hts⟩ (PM g u v) (PM_blind g u v) (PM_mv hP hK) (rcM hK hP) (c_X1_parse l g u v hg hI) (cwV 0 hts gX1_errorPosition_X1_parse rfl rfl rfl (by decide +kernel) ⟨Nat.le_of_ble_eq_true rfl, Nat.le_of_ble_eq_true rfl⟩) rfl hl.1 rfl (Nat.le_of_ble_eq_true rfl) dX1_errorPosition_1 ⟨Nat.zero_le _, Nat.zero_le _⟩ hS (fun _ h => h) (fun H locs hP hH1 hH2 hS => ?_)
  refine lv_aload_n hx hb dX1_errorPosition_4 rfl (lv_at hl 0 rfl) ?_
  refine gf_X1_72 (z := vea (paV u v)) hx hb hts hin m72 hown hK hP rfl dX1_errorPosition_5 ?_
  refine z_i2l hx hb (by omega) dX1_errorPosition_8 ?_
  exact zw_l (Post := (fun H9 => va_P (gD g) vwCl (wM g u (paV u v)) H9)) hx hb hr hlocks dX1_errorPosition_9 hS (by omega) hP
set_option maxHeartbeats 4000000 in
set_option maxRecDepth 100000 in
theorem c_X1_addPeg (l : Launch) (g : GG) (u : ST) (v : VT) (hg : gOk g) (p9z : Int) (q9z : Int) (hI : Inv u) (k0z : zpg u < 48) (k1z : 0 ≤ p9z ∧ p9z ≤ 31) (k2z : 0 ≤ q9z ∧ q9z ≤ 200) : Met l yX1_addPeg wsX1_addPeg (k2_rm 0 0) (va_Pc [.ref (gM g 0), .int (iI p9z), .int (iI q9z)] (fun U => PM g u v U U.heap)) (va_Qi (fun r (_ : Unit) => r = iI (zpg u)) (fun _ t => (fun H9 => va_P (gD g) vwCl (wM g (pgU u p9z q9z) v) H9) t.heap) (aM g)) 0 0 (aM g) := by
  refine Met.ofW (cc := cX1_addPeg) (maxL := 3) (ret := (some .int)) (by decide) rfl ?_
  intro pp ee s mm args below meth cc9 s₁ B hml hv
  obtain ⟨rfl, hPX⟩ := hv
  obtain ⟨hP, hK⟩ := id hPX
  have hx := B.exec
  have hb := B.bytes
  have hr := B.returns
  have hts := atoms_spec (ws := wsX1_addPeg) B.pre
  have hown : s.vm.findClass RX1 = some mm.cls := findClass_of_methodNamed B.named
  have hlocks := B.notSynchronized
  have hin : ∀ w ∈ wsX10, w ∈ wsX1_addPeg := fun w h => List.mem_cons_of_mem _ (List.mem_append_right _ h)
  have m13 : Cond.fieldLink RX1 13 "TraverseBoardModel" "point" "[I" ∈ wsX1_addPeg := by decide +kernel
  have m16 : Cond.fieldLink RX1 16 "TraverseBoardModel" "speed" "[I" ∈ wsX1_addPeg := by decide +kernel
  have m19 : Cond.fieldLink RX1 19 "TraverseBoardModel" "leeway" "[I" ∈ wsX1_addPeg := by decide +kernel
  have m22 : Cond.fieldLink RX1 22 "TraverseBoardModel" "isLost" "[Z" ∈ wsX1_addPeg := by decide +kernel
  have m26 : Cond.fieldLink RX1 26 "TraverseBoardModel" "hasFix" "[Z" ∈ wsX1_addPeg := by decide +kernel
  have m91 : Cond.fieldLink RX1 91 "TraverseBoardModel" "pegs" "I" ∈ wsX1_addPeg := by decide +kernel
  have hS : va_S (aM g) s.heap s.heap [] := va_S.rf
  have hi_bl := iv_bl hI
  have hi_pg := iv_pg hI
  have hi_se := iv_se hI
  have hi_dr := iv_dr hI
  have hz := zup_id (f := zfx u) (i := zpg u + 1) (x := 0) (iv_fo hI (by omega))
  have hl := lv_entry ([.ref (gM g 0), .int (iI p9z), .int (iI q9z)]) (n := 3) (Nat.le_of_ble_eq_true rfl)
  rw [lg_entry_eq]
  generalize (lg_sl ([.ref (gM g 0), .int (iI p9z), .int (iI q9z)]) ++ List.replicate (3 - (lg_sl ([.ref (gM g 0), .int (iI p9z), .int (iI q9z)])).length) Slot.unset).toArray = ls at hl ⊢
  have hl : lv_has ls 3 [(0, .ref (gM g 0)), (1, .int (iI p9z)), (2, .int (iI q9z))] := hl
  refine lv_aload_n hx hb dX1_addPeg_0 rfl (lv_at hl 0 rfl) ?_
  refine gf_X1_13 hx hb hts hin m13 hown hK hP dX1_addPeg_1 ?_
  refine lv_aload_n hx hb dX1_addPeg_4 rfl (lv_at hl 0 rfl) ?_
  refine gf_X1_91 (z := zpg u) hx hb hts hin m91 hown hK hP rfl dX1_addPeg_5 ?_
  refine lv_iload_n hx hb dX1_addPeg_8 rfl (lv_at hl 1 rfl) ?_
  refine as_X1_2 hx hb hK hP (wM_D hg _ _) hS ⟨by omega, by omega⟩ dX1_addPeg_9 (fun H locs hP hS => ?_)
  refine lv_aload_n hx hb dX1_addPeg_10 rfl (lv_at hl 0 rfl) ?_
  refine gf_X1_16 hx hb hts hin m16 hown hK hP dX1_addPeg_11 ?_
  refine lv_aload_n hx hb dX1_addPeg_14 rfl (lv_at hl 0 rfl) ?_
  refine gf_X1_91 (z := zpg u) hx hb hts hin m91 hown hK hP rfl dX1_addPeg_15 ?_
  refine lv_iload_n hx hb dX1_addPeg_18 rfl (lv_at hl 2 rfl) ?_
  refine as_X1_3 hx hb hK hP (wM_D hg _ _) hS ⟨by omega, by omega⟩ dX1_addPeg_19 (fun H locs hP hS => ?_)
  refine lv_aload_n hx hb dX1_addPeg_20 rfl (lv_at hl 0 rfl) ?_
  refine gf_X1_19 hx hb hts hin m19 hown hK hP dX1_addPeg_21 ?_
  refine lv_aload_n hx hb dX1_addPeg_24 rfl (lv_at hl 0 rfl) ?_
  refine gf_X1_91 (z := zpg u) hx hb hts hin m91 hown hK hP rfl dX1_addPeg_25 ?_
  refine z_iconst hx hb dX1_addPeg_28 ?_
  refine as_X1_4 hx hb hK hP (wM_D hg _ _) hS ⟨by omega, by omega⟩ dX1_addPeg_29 (fun H locs hP hS => ?_)
  refine lv_aload_n hx hb dX1_addPeg_30 rfl (lv_at hl 0 rfl) ?_
  refine gf_X1_22 hx hb hts hin m22 hown hK hP dX1_addPeg_31 ?_
  refine lv_aload_n hx hb dX1_addPeg_34 rfl (lv_at hl 0 rfl) ?_
  refine gf_X1_91 (z := zpg u) hx hb hts hin m91 hown hK hP rfl dX1_addPeg_35 ?_
  refine z_iconst hx hb dX1_addPeg_38 ?_
  refine as_X1_5 hx hb hK hP (wM_D hg _ _) hS ⟨by omega, by omega⟩ (by decide +kernel) dX1_addPeg_39 (fun H locs hP hS => ?_)
  refine lv_aload_n hx hb dX1_addPeg_40 rfl (lv_at hl 0 rfl) ?_
  refine lv_dup hx hb dX1_addPeg_41 rfl ?_
  refine gf_X1_91 (z := zpg u) hx hb hts hin m91 hown hK hP rfl dX1_addPeg_42 ?_
  refine z_iconst hx hb dX1_addPeg_45 ?_
  refine z_iadd hx hb dX1_addPeg_46 ?_
  refine pf_X1_91 hx hb hts hin m91 hown hK hP (wM_D hg _ _) hS dX1_addPeg_47 (fun H locs hP hS => ?_)
  refine lv_aload_n hx hb dX1_addPeg_50 rfl (lv_at hl 0 rfl) ?_
  refine gf_X1_26 hx hb hts hin m26 hown hK hP dX1_addPeg_51 ?_
  refine lv_aload_n hx hb dX1_addPeg_54 rfl (lv_at hl 0 rfl) ?_
  refine gf_X1_91 (z := (zpg u) + 1) hx hb hts hin m91 hown hK hP rfl dX1_addPeg_55 ?_
  refine z_iconst hx hb dX1_addPeg_58 ?_
  refine as_X1_6 hx hb hK hP (wM_D hg _ _) hS ⟨by omega, by omega⟩ (by decide +kernel) dX1_addPeg_59 (fun H locs hP hS => ?_)
  refine lv_aload_n hx hb dX1_addPeg_60 rfl (lv_at hl 0 rfl) ?_
  refine gf_X1_91 (z := (zpg u) + 1) hx hb hts hin m91 hown hK hP rfl dX1_addPeg_61 ?_
  refine z_iconst hx hb dX1_addPeg_64 ?_
  refine z_isub hx hb dX1_addPeg_65 ?_
  exact zw_i (Post := (fun H9 => va_P (gD g) vwCl (wM g (pgU u p9z q9z) v) H9)) hx hb hr hlocks dX1_addPeg_66 hS (by first | rfl | omega) (by rw [show pgU u p9z q9z = ufx (pgU u p9z q9z) (zup (zfx u) (zpg u + 1) 0) from by rw [hz]; rfl]; exact hP)
set_option maxHeartbeats 4000000 in
set_option maxRecDepth 100000 in
theorem c_X1_addFromBuffer (l : Launch) (g : GG) (u : ST) (v : VT) (hg : gOk g) (hI : Inv u) : Met l yX1_addFromBuffer wsX1_addFromBuffer (k2_rm 4 91) (va_Pc [.ref (gM g 0)] (fun U => PM g u v U U.heap)) (va_Ql (fun r (_ : Unit) => r = jI (afR u)) (fun _ t => (fun H9 => va_P (gD g) vwCl (wM g (afU u) (paV u v)) H9) t.heap) (aM g)) 0 0 (aM g) := by
  refine Met.ofW (cc := cX1_addFromBuffer) (maxL := 1) (ret := (some .long)) (by decide) rfl ?_
  intro pp ee s mm args below meth cc9 s₁ B hml hv
  obtain ⟨rfl, hPX⟩ := hv
  obtain ⟨hP, hK⟩ := id hPX
  have hx := B.exec
  have hb := B.bytes
  have hr := B.returns
  have hts := atoms_spec (ws := wsX1_addFromBuffer) B.pre
  have hown : s.vm.findClass RX1 = some mm.cls := findClass_of_methodNamed B.named
  have hlocks := B.notSynchronized
  have hin : ∀ w ∈ wsX10, w ∈ wsX1_addFromBuffer := fun w h => List.mem_cons_of_mem _ (List.mem_append_right _ h)
  have m53 : Cond.fieldLink RX1 53 "TraverseBoardModel" "bufferLength" "I" ∈ wsX1_addFromBuffer := by decide +kernel
  have m57 : Cond.constantLong RX1 57 (-9000000000000000004) ∈ wsX1_addFromBuffer := by decide +kernel
  have m75 : Cond.fieldLink RX1 75 "TraverseBoardModel" "isPeg" "Z" ∈ wsX1_addFromBuffer := by decide +kernel
  have m82 : Cond.fieldLink RX1 82 "TraverseBoardModel" "readPoint" "I" ∈ wsX1_addFromBuffer := by decide +kernel
  have m85 : Cond.fieldLink RX1 85 "TraverseBoardModel" "readSpeed" "I" ∈ wsX1_addFromBuffer := by decide +kernel
  have m91 : Cond.fieldLink RX1 91 "TraverseBoardModel" "pegs" "I" ∈ wsX1_addFromBuffer := by decide +kernel
  have m94 : Cond.constantLong RX1 94 (-9000000000000000005) ∈ wsX1_addFromBuffer := by decide +kernel
  have hS : va_S (aM g) s.heap s.heap [] := va_S.rf
  have hi_bl := iv_bl hI
  have hi_pg := iv_pg hI
  have hi_se := iv_se hI
  have hi_dr := iv_dr hI
  have hpb := pb_rng u
  have hip := pa_ip (u := u) v
  have hnum := af_num hI
  have hl := lv_entry ([.ref (gM g 0)]) (n := 1) (Nat.le_of_ble_eq_true rfl)
  rw [lg_entry_eq]
  generalize (lg_sl ([.ref (gM g 0)]) ++ List.replicate (1 - (lg_sl ([.ref (gM g 0)])).length) Slot.unset).toArray = ls at hl ⊢
  have hl : lv_has ls 1 [(0, .ref (gM g 0))] := hl
  refine lv_aload_n hx hb dX1_addFromBuffer_0 rfl (lv_at hl 0 rfl) ?_
  refine zVw_v (As := []) (rest := []) ⟨hx, hb, hml, hown, hts⟩ (PM g u v) (PM_blind g u v) (PM_mv hP hK) (rcM hK hP) (c_X1_parse l g u v hg hI) (cwV 0 hts gX1_addFromBuffer_X1_parse rfl rfl rfl (by decide +kernel) ⟨Nat.le_of_ble_eq_true rfl, Nat.le_of_ble_eq_true rfl⟩) rfl hl.1 rfl (Nat.le_of_ble_eq_true rfl) dX1_addFromBuffer_1 ⟨Nat.zero_le _, Nat.zero_le _⟩ hS (fun _ h => h) (fun H locs hP hH1 hH2 hS => ?_)
  refine lv_aload_n hx hb dX1_addFromBuffer_4 rfl (lv_at hl 0 rfl) ?_
  refine gf_X1_75 (z := vip (paV u v)) hx hb hts hin m75 hown hK hP rfl dX1_addFromBuffer_5 ?_
  refine z_if_ne (tgt := 15) hx hb dX1_addFromBuffer_8 (by decide) (by omega) (fun c_1 => ?_) (fun c_1 => ?_)
  · refine lv_aload_n hx hb dX1_addFromBuffer_15 rfl (lv_at hl 0 rfl) ?_
    refine gf_X1_91 (z := zpg u) hx hb hts hin m91 hown hK hP rfl dX1_addFromBuffer_16 ?_
    refine z_bipush hx hb dX1_addFromBuffer_19 (by decide +kernel) ?_
    refine z_icmp_ne (tgt := 28) hx hb dX1_addFromBuffer_21 (by decide) (by omega) ⟨by decide, by decide⟩ (fun c_2 => ?_) (fun c_2 => ?_)
    · refine lv_aload_n hx hb dX1_addFromBuffer_28 rfl (lv_at hl 0 rfl) ?_
      refine z_iconst hx hb dX1_addFromBuffer_29 ?_
      refine pf_X1_53 hx hb hts hin m53 hown hK hP (wM_D hg _ _) hS dX1_addFromBuffer_30 (fun H locs hP hS => ?_)
      refine lv_aload_n hx hb dX1_addFromBuffer_33 rfl (lv_at hl 0 rfl) ?_
      refine lv_aload_n hx hb dX1_addFromBuffer_34 rfl (lv_at hl 0 rfl) ?_
      refine gf_X1_82 (z := vrp (paV u v)) hx hb hts hin m82 hown hK hP rfl dX1_addFromBuffer_35 ?_
      refine lv_aload_n hx hb dX1_addFromBuffer_38 rfl (lv_at hl 0 rfl) ?_
      refine gf_X1_85 (z := vrs (paV u v)) hx hb hts hin m85 hown hK hP rfl dX1_addFromBuffer_39 ?_
      refine zVw_i (As := [.int (iI (vrp (paV u v))), .int (iI (vrs (paV u v)))]) (rest := []) ⟨hx, hb, hml, hown, hts⟩ (PM g (ubl u 0) (paV u v)) (PM_blind g (ubl u 0) (paV u v)) (PM_mv hP hK) (rcM hK hP) (c_X1_addPeg l g ((ubl u 0)) ((paV u v)) hg (vrp (paV u v)) (vrs (paV u v)) (inv_cl hI) (by show zpg u < 48; omega) (by rcases hip with ⟨q1z, q2z, q3z, q4z, q5z⟩ | ⟨q1z, -⟩ <;> first | (rw [q4z]; exact hpb) | (exfalso; omega)) (by rcases hip with ⟨q1z, q2z, q3z, q4z, q5z⟩ | ⟨q1z, -⟩ <;> first | (rw [q5z]; exact hnum ⟨q2z, q3z⟩) | (exfalso; omega))) (cwV 2 hts gX1_addFromBuffer_X1_addPeg rfl rfl rfl (by decide +kernel) ⟨Nat.le_of_ble_eq_true rfl, Nat.le_of_ble_eq_true rfl⟩) rfl hl.1 rfl (Nat.le_of_ble_eq_true rfl) dX1_addFromBuffer_42 ⟨Nat.zero_le _, Nat.zero_le _⟩ hS (fun _ h => h) (fun H locs hP hH1 hH2 hS => ?_)
      refine z_i2l hx hb (by show B32 (zpg u); omega) dX1_addFromBuffer_45 ?_
      exact zw_l (Post := (fun H9 => va_P (gD g) vwCl (wM g (afU u) (paV u v)) H9)) hx hb hr hlocks dX1_addFromBuffer_46 hS (by unfold afR; rcases hip with ⟨q1z, q2z, q3z, q4z, q5z⟩ | ⟨q1z, q2z⟩ <;> first | (exfalso; omega) | (rw [if_pos ⟨q2z, q3z⟩]; first | (rw [if_pos (by omega)]; rfl) | (rw [if_neg (by omega)]; rfl)) | (rw [if_neg q2z]; rfl)) (by unfold afU; rcases hip with ⟨q1z, q2z, q3z, q4z, q5z⟩ | ⟨q1z, q2z⟩ <;> first | (exfalso; omega) | (rw [if_neg (fun q => q2z q.1)]; exact hP) | (rw [if_neg (fun q => absurd q.2 (by omega))]; exact hP) | (rw [if_pos ⟨⟨q2z, q3z⟩, by omega⟩]; rw [q4z, q5z] at hP; exact hP))
    · refine lv_ldc2 (v := jI (-9000000000000000004)) hx hb hown (hts _ m57) dX1_addFromBuffer_24 ?_
      exact zw_l (Post := (fun H9 => va_P (gD g) vwCl (wM g (afU u) (paV u v)) H9)) hx hb hr hlocks dX1_addFromBuffer_27 hS (by unfold afR; rcases hip with ⟨q1z, q2z, q3z, q4z, q5z⟩ | ⟨q1z, q2z⟩ <;> first | (exfalso; omega) | (rw [if_pos ⟨q2z, q3z⟩]; first | (rw [if_pos (by omega)]; rfl) | (rw [if_neg (by omega)]; rfl)) | (rw [if_neg q2z]; rfl)) (by unfold afU; rcases hip with ⟨q1z, q2z, q3z, q4z, q5z⟩ | ⟨q1z, q2z⟩ <;> first | (exfalso; omega) | (rw [if_neg (fun q => q2z q.1)]; exact hP) | (rw [if_neg (fun q => absurd q.2 (by omega))]; exact hP) | (rw [if_pos ⟨⟨q2z, q3z⟩, by omega⟩]; rw [q4z, q5z] at hP; exact hP))
  · refine lv_ldc2 (v := jI (-9000000000000000005)) hx hb hown (hts _ m94) dX1_addFromBuffer_11 ?_
    exact zw_l (Post := (fun H9 => va_P (gD g) vwCl (wM g (afU u) (paV u v)) H9)) hx hb hr hlocks dX1_addFromBuffer_14 hS (by unfold afR; rcases hip with ⟨q1z, q2z, q3z, q4z, q5z⟩ | ⟨q1z, q2z⟩ <;> first | (exfalso; omega) | (rw [if_pos ⟨q2z, q3z⟩]; first | (rw [if_pos (by omega)]; rfl) | (rw [if_neg (by omega)]; rfl)) | (rw [if_neg q2z]; rfl)) (by unfold afU; rcases hip with ⟨q1z, q2z, q3z, q4z, q5z⟩ | ⟨q1z, q2z⟩ <;> first | (exfalso; omega) | (rw [if_neg (fun q => q2z q.1)]; exact hP) | (rw [if_neg (fun q => absurd q.2 (by omega))]; exact hP) | (rw [if_pos ⟨⟨q2z, q3z⟩, by omega⟩]; rw [q4z, q5z] at hP; exact hP))
