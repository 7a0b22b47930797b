/-! the reference, by program (genm.py): X1_isPoint X1_add X1_isPegNumber X1_replace X1_removeLast X1_lostMany X1_lose X1_setLeeway -/
set_option maxHeartbeats 4000000 in
set_option maxRecDepth 100000 in
theorem c_X1_isPoint (l : Launch) (g : GG) (x : Int) (hb_x : B32 x) : Met l yX1_isPoint wsX1_isPoint (k2_rm 1 22) (va_Pc [.int (iI x)] (fun U => PT U U.heap)) (vp_Si (fun r => (r = iI 1 ∧ (0 ≤ x ∧ x ≤ 31)) ∨ (r = iI 0 ∧ ¬ (0 ≤ x ∧ x ≤ 31)))) 0 0 (fun _ => False) := by
  refine Met.ofW (cc := cX1_isPoint) (maxL := 1) (ret := (some .boolean)) (by decide) rfl ?_
  intro pp ee s mm args below meth cc9 s₁ B hml hv
  obtain ⟨rfl, hPX⟩ := hv
  have hx := B.exec
  have hb := B.bytes
  have hr := B.returns
  have hts := atoms_spec (ws := wsX1_isPoint) B.pre
  have hown : s.vm.findClass RX1 = some mm.cls := findClass_of_methodNamed B.named
  have hlocks := B.notSynchronized
  have hl := lv_entry ([.int (iI x)]) (n := 1) (Nat.le_of_ble_eq_true rfl)
  rw [lg_entry_eq]
  generalize (lg_sl ([.int (iI x)]) ++ List.replicate (1 - (lg_sl ([.int (iI x)])).length) Slot.unset).toArray = ls at hl ⊢
  have hl : lv_has ls 1 [(0, .int (iI x))] := hl
  refine lv_iload_n hx hb dX1_isPoint_0 rfl (lv_at hl 0 rfl) ?_
  refine z_iconst hx hb dX1_isPoint_1 ?_
  refine z_bipush hx hb dX1_isPoint_2 (by decide +kernel) ?_
  refine zS_z (As := [.int (iI x), .int (iI 0), .int (iI 31)]) (rest := []) ⟨hx, hb, hml, hown, hts⟩ (PT) PT_blind PT_mv  (c_X1_within l g x 0 31 (by omega) (by omega) (by omega)) (va_cwS 3 hts gX1_isPoint_X1_within rfl rfl rfl (by decide +kernel) ⟨Nat.le_of_ble_eq_true rfl, Nat.le_of_ble_eq_true rfl⟩) rfl hl.1 rfl (Nat.le_of_ble_eq_true rfl) dX1_isPoint_4 ⟨Nat.zero_le _, Nat.zero_le _⟩ (fun c_1 => ?_) (fun c_1 => ?_)
  · exact zr_1 hx hb hr hlocks dX1_isPoint_7 (by omega)
  · exact zr_0 hx hb hr hlocks dX1_isPoint_7 (by omega)
set_option maxHeartbeats 4000000 in
set_option maxRecDepth 100000 in
theorem c_X1_add (l : Launch) (g : GG) (u : ST) (v : VT) (hg : gOk g) (p9z : Int) (q9z : Int) (hI : Inv u) (hb_p9 : B32 p9z) (hb_q9 : B32 q9z) : Met l yX1_add wsX1_add (k2_rm 2 42) (va_Pc [.ref (gM g 0), .int (iI p9z), .int (iI q9z)] (fun U => PM g u v U U.heap)) (va_Ql (fun r (_ : Unit) => r = jI (adR u p9z q9z)) (fun _ t => (fun H9 => va_P (gD g) vwCl (wM g (adU u p9z q9z) v) H9) t.heap) (aM g)) 0 0 (aM g) := by
  refine Met.ofW (cc := cX1_add) (maxL := 3) (ret := (some .long)) (by decide) rfl ?_
  intro pp ee s mm args below meth cc9 s₁ B hml hv
  obtain ⟨rfl, hPX⟩ := hv
  obtain ⟨hP, hK⟩ := id hPX
  have hx := B.exec
  have hb := B.bytes
  have hr := B.returns
  have hts := atoms_spec (ws := wsX1_add) B.pre
  have hown : s.vm.findClass RX1 = some mm.cls := findClass_of_methodNamed B.named
  have hlocks := B.notSynchronized
  have hin : ∀ w ∈ wsX10, w ∈ wsX1_add := fun w h => List.mem_cons_of_mem _ (List.mem_append_right _ h)
  have m51 : Cond.constantLong RX1 51 (-9000000000000000001) ∈ wsX1_add := by decide +kernel
  have m57 : Cond.constantLong RX1 57 (-9000000000000000004) ∈ wsX1_add := by decide +kernel
  have m91 : Cond.fieldLink RX1 91 "TraverseBoardModel" "pegs" "I" ∈ wsX1_add := by decide +kernel
  have hS : va_S (aM g) s.heap s.heap [] := va_S.rf
  have hi_bl := iv_bl hI
  have hi_pg := iv_pg hI
  have hi_se := iv_se hI
  have hi_dr := iv_dr hI
  have hl := lv_entry ([.ref (gM g 0), .int (iI p9z), .int (iI q9z)]) (n := 3) (Nat.le_of_ble_eq_true rfl)
  rw [lg_entry_eq]
  generalize (lg_sl ([.ref (gM g 0), .int (iI p9z), .int (iI q9z)]) ++ List.replicate (3 - (lg_sl ([.ref (gM g 0), .int (iI p9z), .int (iI q9z)])).length) Slot.unset).toArray = ls at hl ⊢
  have hl : lv_has ls 3 [(0, .ref (gM g 0)), (1, .int (iI p9z)), (2, .int (iI q9z))] := hl
  refine lv_iload_n hx hb dX1_add_0 rfl (lv_at hl 1 rfl) ?_
  refine zS_z (As := [.int (iI p9z)]) (rest := []) ⟨hx, hb, hml, hown, hts⟩ (PT) PT_blind PT_mv  (c_X1_isPoint l g p9z (by omega)) (va_cwS 1 hts gX1_add_X1_isPoint rfl rfl rfl (by decide +kernel) ⟨Nat.le_of_ble_eq_true rfl, Nat.le_of_ble_eq_true rfl⟩) rfl hl.1 rfl (Nat.le_of_ble_eq_true rfl) dX1_add_1 ⟨Nat.zero_le _, Nat.zero_le _⟩ (fun c_1 => ?_) (fun c_1 => ?_)
  · refine z_if_eq (tgt := 18) hx hb dX1_add_4 (by decide) ⟨by decide, by decide⟩ (fun c_2 => (absurd c_2 (by decide))) (fun c_2 => ?_)
    refine lv_iload_n hx hb dX1_add_7 rfl (lv_at hl 2 rfl) ?_
    refine z_iconst hx hb dX1_add_8 ?_
    refine z_sipush hx hb dX1_add_9 (by decide +kernel) ?_
    refine zS_z (As := [.int (iI q9z), .int (iI 0), .int (iI 200)]) (rest := []) ⟨hx, hb, hml, hown, hts⟩ (PT) PT_blind PT_mv  (c_X1_within l g q9z 0 200 (by omega) (by omega) (by omega)) (va_cwS 3 hts gX1_add_X1_within rfl rfl rfl (by decide +kernel) ⟨Nat.le_of_ble_eq_true rfl, Nat.le_of_ble_eq_true rfl⟩) rfl hl.1 rfl (Nat.le_of_ble_eq_true rfl) dX1_add_12 ⟨Nat.zero_le _, Nat.zero_le _⟩ (fun c_3 => ?_) (fun c_3 => ?_)
    · refine z_if_ne (tgt := 22) hx hb dX1_add_15 (by decide) ⟨by decide, by decide⟩ (fun c_4 => ?_) (fun c_4 => (absurd c_4 (by decide)))
      refine lv_aload_n hx hb dX1_add_22 rfl (lv_at hl 0 rfl) ?_
      refine gf_X1_91 (z := zpg u) hx hb hts hin m91 hown hK hP rfl dX1_add_23 ?_
      refine z_bipush hx hb dX1_add_26 (by decide +kernel) ?_
      refine z_icmp_ne (tgt := 37) hx hb dX1_add_28 (by decide) (by omega) ⟨by decide, by decide⟩ (fun c_5 => ?_) (fun c_5 => ?_)
      · refine lv_aload_n hx hb dX1_add_37 rfl (lv_at hl 0 rfl) ?_
        refine lv_iload_n hx hb dX1_add_38 rfl (lv_at hl 1 rfl) ?_
        refine lv_iload_n hx hb dX1_add_39 rfl (lv_at hl 2 rfl) ?_
        refine zVw_i (As := [.int (iI p9z), .int (iI q9z)]) (rest := []) ⟨hx, hb, hml, hown, hts⟩ (PM g u v) (PM_blind g u v) (PM_mv hP hK) (rcM hK hP) (c_X1_addPeg l g u v hg p9z q9z hI (by omega) (by omega) (by omega)) (cwV 2 hts gX1_add_X1_addPeg rfl rfl rfl (by decide +kernel) ⟨Nat.le_of_ble_eq_true rfl, Nat.le_of_ble_eq_true rfl⟩) rfl hl.1 rfl (Nat.le_of_ble_eq_true rfl) dX1_add_40 ⟨Nat.zero_le _, Nat.zero_le _⟩ hS (fun _ h => h) (fun H locs hP hH1 hH2 hS => ?_)
        refine z_i2l hx hb (by omega) dX1_add_43 ?_
        exact zw_l (Post := (fun H9 => va_P (gD g) vwCl (wM g (adU u p9z q9z) v) H9)) hx hb hr hlocks dX1_add_44 hS (by unfold adR eOR eFU; (repeat' split) <;> first | rfl | omega) (by unfold adU; split <;> first | exact hP | (exfalso; omega))
      · refine lv_ldc2 (v := jI (-9000000000000000004)) hx hb hown (hts _ m57) dX1_add_31 ?_
        refine lv_goto (tgt := 44) hx hb dX1_add_34 (by decide) ?_
        exact zw_l (Post := (fun H9 => va_P (gD g) vwCl (wM g (adU u p9z q9z) v) H9)) hx hb hr hlocks dX1_add_44 hS (by unfold adR eOR eFU; (repeat' split) <;> first | rfl | omega) (by unfold adU; split <;> first | exact hP | (exfalso; omega))
    · refine z_if_ne (tgt := 22) hx hb dX1_add_15 (by decide) ⟨by decide, by decide⟩ (fun c_6 => (absurd c_6 (by decide))) (fun c_6 => ?_)
      refine lv_ldc2 (v := jI (-9000000000000000001)) hx hb hown (hts _ m51) dX1_add_18 ?_
      exact zw_l (Post := (fun H9 => va_P (gD g) vwCl (wM g (adU u p9z q9z) v) H9)) hx hb hr hlocks dX1_add_21 hS (by unfold adR eOR eFU; (repeat' split) <;> first | rfl | omega) (by unfold adU; split <;> first | exact hP | (exfalso; omega))
  · refine z_if_eq (tgt := 18) hx hb dX1_add_4 (by decide) ⟨by decide, by decide⟩ (fun c_7 => ?_) (fun c_7 => (absurd c_7 (by decide)))
    refine lv_ldc2 (v := jI (-9000000000000000001)) hx hb hown (hts _ m51) dX1_add_18 ?_
    exact zw_l (Post := (fun H9 => va_P (gD g) vwCl (wM g (adU u p9z q9z) v) H9)) hx hb hr hlocks dX1_add_21 hS (by unfold adR eOR eFU; (repeat' split) <;> first | rfl | omega) (by unfold adU; split <;> first | exact hP | (exfalso; omega))
set_option maxHeartbeats 4000000 in
set_option maxRecDepth 100000 in
theorem c_X1_isPegNumber (l : Launch) (g : GG) (u : ST) (v : VT) (x : Int) (hI : Inv u) (hb_x : B32 x) : Met l yX1_isPegNumber wsX1_isPegNumber (k2_rm 1 22) (va_Pc [.ref (gM g 0), .int (iI x)] (fun U => PM g u v U U.heap)) (vp_Si (fun r => (r = iI 1 ∧ (0 ≤ x ∧ x ≤ zpg u - 1)) ∨ (r = iI 0 ∧ ¬ (0 ≤ x ∧ x ≤ zpg u - 1)))) 0 0 (fun _ => False) := by
  refine Met.ofW (cc := cX1_isPegNumber) (maxL := 2) (ret := (some .boolean)) (by decide) rfl ?_
  intro pp ee s mm args below meth cc9 s₁ B hml hv
  obtain ⟨rfl, hPX⟩ := hv
  obtain ⟨hP, hK⟩ := id hPX
  have hx := B.exec
  have hb := B.bytes
  have hr := B.returns
  have hts := atoms_spec (ws := wsX1_isPegNumber) B.pre
  have hown : s.vm.findClass RX1 = some mm.cls := findClass_of_methodNamed B.named
  have hlocks := B.notSynchronized
  have hin : ∀ w ∈ wsX10, w ∈ wsX1_isPegNumber := fun w h => List.mem_cons_of_mem _ (List.mem_append_right _ h)
  have m91 : Cond.fieldLink RX1 91 "TraverseBoardModel" "pegs" "I" ∈ wsX1_isPegNumber := by decide +kernel
  have hi_bl := iv_bl hI
  have hi_pg := iv_pg hI
  have hi_se := iv_se hI
  have hi_dr := iv_dr hI
  have hl := lv_entry ([.ref (gM g 0), .int (iI x)]) (n := 2) (Nat.le_of_ble_eq_true rfl)
  rw [lg_entry_eq]
  generalize (lg_sl ([.ref (gM g 0), .int (iI x)]) ++ List.replicate (2 - (lg_sl ([.ref (gM g 0), .int (iI x)])).length) Slot.unset).toArray = ls at hl ⊢
  have hl : lv_has ls 2 [(0, .ref (gM g 0)), (1, .int (iI x))] := hl
  refine lv_iload_n hx hb dX1_isPegNumber_0 rfl (lv_at hl 1 rfl) ?_
  refine z_iconst hx hb dX1_isPegNumber_1 ?_
  refine lv_aload_n hx hb dX1_isPegNumber_2 rfl (lv_at hl 0 rfl) ?_
  refine gf_X1_91 (z := zpg u) hx hb hts hin m91 hown hK hP rfl dX1_isPegNumber_3 ?_
  refine z_iconst hx hb dX1_isPegNumber_6 ?_
  refine z_isub hx hb dX1_isPegNumber_7 ?_
  refine zS_z (As := [.int (iI x), .int (iI 0), .int (iI ((zpg u) - 1))]) (rest := []) ⟨hx, hb, hml, hown, hts⟩ (PT) PT_blind PT_mv  (c_X1_within l g x 0 ((zpg u) - 1) (by omega) (by omega) (by omega)) (va_cwS 3 hts gX1_isPegNumber_X1_within rfl rfl rfl (by decide +kernel) ⟨Nat.le_of_ble_eq_true rfl, Nat.le_of_ble_eq_true rfl⟩) rfl hl.1 rfl (Nat.le_of_ble_eq_true rfl) dX1_isPegNumber_8 ⟨Nat.zero_le _, Nat.zero_le _⟩ (fun c_1 => ?_) (fun c_1 => ?_)
  · exact zr_1 hx hb hr hlocks dX1_isPegNumber_11 (by omega)
  · exact zr_0 hx hb hr hlocks dX1_isPegNumber_11 (by omega)
set_option maxHeartbeats 4000000 in
set_option maxRecDepth 100000 in
theorem c_X1_replace (l : Launch) (g : GG) (u : ST) (v : VT) (hg : gOk g) (k : Int) (p9z : Int) (q9z : Int) (hI : Inv u) (hb_k : B32 k) (hb_p9 : B32 p9z) (hb_q9 : B32 q9z) : Met l yX1_replace wsX1_replace (k2_rm 2 43) (va_Pc [.ref (gM g 0), .int (iI k), .int (iI p9z), .int (iI q9z)] (fun U => PM g u v U U.heap)) (va_Ql (fun r (_ : Unit) => r = jI (reR u k p9z q9z)) (fun _ t => (fun H9 => va_P (gD g) vwCl (wM g (reU u k p9z q9z) v) H9) t.heap) (aM g)) 0 0 (aM g) := by
  refine Met.ofW (cc := cX1_replace) (maxL := 6) (ret := (some .long)) (by decide) rfl ?_
  intro pp ee s mm args below meth cc9 s₁ B hml hv
  obtain ⟨rfl, hPX⟩ := hv
  obtain ⟨hP, hK⟩ := id hPX
  have hx := B.exec
  have hb := B.bytes
  have hr := B.returns
  have hts := atoms_spec (ws := wsX1_replace) B.pre
  have hown : s.vm.findClass RX1 = some mm.cls := findClass_of_methodNamed B.named
  have hlocks := B.notSynchronized
  have hin : ∀ w ∈ wsX10, w ∈ wsX1_replace := fun w h => List.mem_cons_of_mem _ (List.mem_append_right _ h)
  have m106 : Cond.constantLong RX1 106 (-9000000000000000002) ∈ wsX1_replace := by decide +kernel
  have m13 : Cond.fieldLink RX1 13 "TraverseBoardModel" "point" "[I" ∈ wsX1_replace := by decide +kernel
  have m16 : Cond.fieldLink RX1 16 "TraverseBoardModel" "speed" "[I" ∈ wsX1_replace := by decide +kernel
  have m22 : Cond.fieldLink RX1 22 "TraverseBoardModel" "isLost" "[Z" ∈ wsX1_replace := by decide +kernel
  have m51 : Cond.constantLong RX1 51 (-9000000000000000001) ∈ wsX1_replace := by decide +kernel
  have hS : va_S (aM g) s.heap s.heap [] := va_S.rf
  have hi_bl := iv_bl hI
  have hi_pg := iv_pg hI
  have hi_se := iv_se hI
  have hi_dr := iv_dr hI
  have hl := lv_entry ([.ref (gM g 0), .int (iI k), .int (iI p9z), .int (iI q9z)]) (n := 6) (Nat.le_of_ble_eq_true rfl)
  rw [lg_entry_eq]
  generalize (lg_sl ([.ref (gM g 0), .int (iI k), .int (iI p9z), .int (iI q9z)]) ++ List.replicate (6 - (lg_sl ([.ref (gM g 0), .int (iI k), .int (iI p9z), .int (iI q9z)])).length) Slot.unset).toArray = ls at hl ⊢
  have hl : lv_has ls 6 [(0, .ref (gM g 0)), (1, .int (iI k)), (2, .int (iI p9z)), (3, .int (iI q9z))] := hl
  refine lv_aload_n hx hb dX1_replace_0 rfl (lv_at hl 0 rfl) ?_
  refine lv_iload_n hx hb dX1_replace_1 rfl (lv_at hl 1 rfl) ?_
  refine zV_z (As := [.int (iI k)]) (rest := []) ⟨hx, hb, hml, hown, hts⟩ (PM g u v) (PM_blind g u v) (PM_mv hP hK) (rcM hK hP) (c_X1_isPegNumber l g u v k hI (by omega)) (cwV 1 hts gX1_replace_X1_isPegNumber rfl rfl rfl (by decide +kernel) ⟨Nat.le_of_ble_eq_true rfl, Nat.le_of_ble_eq_true rfl⟩) rfl hl.1 rfl (Nat.le_of_ble_eq_true rfl) dX1_replace_2 ⟨Nat.zero_le _, Nat.zero_le _⟩ (fun c_1 => ?_) (fun c_1 => ?_)
  · refine z_if_ne (tgt := 12) hx hb dX1_replace_5 (by decide) ⟨by decide, by decide⟩ (fun c_2 => ?_) (fun c_2 => (absurd c_2 (by decide)))
    refine lv_iload_n hx hb dX1_replace_12 rfl (lv_at hl 2 rfl) ?_
    refine zS_z (As := [.int (iI p9z)]) (rest := []) ⟨hx, hb, hml, hown, hts⟩ (PT) PT_blind PT_mv  (c_X1_isPoint l g p9z (by omega)) (va_cwS 1 hts gX1_replace_X1_isPoint rfl rfl rfl (by decide +kernel) ⟨Nat.le_of_ble_eq_true rfl, Nat.le_of_ble_eq_true rfl⟩) rfl hl.1 rfl (Nat.le_of_ble_eq_true rfl) dX1_replace_13 ⟨Nat.zero_le _, Nat.zero_le _⟩ (fun c_3 => ?_) (fun c_3 => ?_)
    · refine z_if_eq (tgt := 30) hx hb dX1_replace_16 (by decide) ⟨by decide, by decide⟩ (fun c_4 => (absurd c_4 (by decide))) (fun c_4 => ?_)
      refine lv_iload_n hx hb dX1_replace_19 rfl (lv_at hl 3 rfl) ?_
      refine z_iconst hx hb dX1_replace_20 ?_
      refine z_sipush hx hb dX1_replace_21 (by decide +kernel) ?_
      refine zS_z (As := [.int (iI q9z), .int (iI 0), .int (iI 200)]) (rest := []) ⟨hx, hb, hml, hown, hts⟩ (PT) PT_blind PT_mv  (c_X1_within l g q9z 0 200 (by omega) (by omega) (by omega)) (va_cwS 3 hts gX1_replace_X1_within rfl rfl rfl (by decide +kernel) ⟨Nat.le_of_ble_eq_true rfl, Nat.le_of_ble_eq_true rfl⟩) rfl hl.1 rfl (Nat.le_of_ble_eq_true rfl) dX1_replace_24 ⟨Nat.zero_le _, Nat.zero_le _⟩ (fun c_5 => ?_) (fun c_5 => ?_)
      · refine z_if_ne (tgt := 34) hx hb dX1_replace_27 (by decide) ⟨by decide, by decide⟩ (fun c_6 => ?_) (fun c_6 => (absurd c_6 (by decide)))
        refine lv_aload_n hx hb dX1_replace_34 rfl (lv_at hl 0 rfl) ?_
        refine gf_X1_22 hx hb hts hin m22 hown hK hP dX1_replace_35 ?_
        refine lv_iload_n hx hb dX1_replace_38 rfl (lv_at hl 1 rfl) ?_
        refine al_X1_5 hx hb hK hP ⟨by omega, by omega⟩ dX1_replace_39 ?_
        have hv_7 := iv_lo hI k
        refine z_if_eq (tgt := 47) hx hb dX1_replace_40 (by decide) (by omega) (fun c_8 => ?_) (fun c_8 => ?_)
        · refine z_lconst (z := 0) hx hb dX1_replace_47 rfl ?_
          refine lv_lstore (lv' := [(4, .long (jI 0)), (0, .ref (gM g 0)), (1, .int (iI k)), (2, .int (iI p9z)), (3, .int (iI q9z))]) hx hb dX1_replace_48 hl (by decide) rfl (fun ls hl => ?_)
          refine lv_aload_n hx hb dX1_replace_50 rfl (lv_at hl 1 rfl) ?_
          refine gf_X1_22 hx hb hts hin m22 hown hK hP dX1_replace_51 ?_
          refine lv_iload_n hx hb dX1_replace_54 rfl (lv_at hl 2 rfl) ?_
          refine z_iconst hx hb dX1_replace_55 ?_
          refine as_X1_5 hx hb hK hP (wM_D hg _ _) hS ⟨by omega, by omega⟩ (by decide +kernel) dX1_replace_56 (fun H locs hP hS => ?_)
          refine lv_aload_n hx hb dX1_replace_57 rfl (lv_at hl 1 rfl) ?_
          refine gf_X1_13 hx hb hts hin m13 hown hK hP dX1_replace_58 ?_
          refine lv_iload_n hx hb dX1_replace_61 rfl (lv_at hl 2 rfl) ?_
          refine lv_iload_n hx hb dX1_replace_62 rfl (lv_at hl 3 rfl) ?_
          refine as_X1_2 hx hb hK hP (wM_D hg _ _) hS ⟨by omega, by omega⟩ dX1_replace_63 (fun H locs hP hS => ?_)
          refine lv_aload_n hx hb dX1_replace_64 rfl (lv_at hl 1 rfl) ?_
          refine gf_X1_16 hx hb hts hin m16 hown hK hP dX1_replace_65 ?_
          refine lv_iload_n hx hb dX1_replace_68 rfl (lv_at hl 2 rfl) ?_
          refine lv_iload_n hx hb dX1_replace_69 rfl (lv_at hl 4 rfl) ?_
          refine as_X1_3 hx hb hK hP (wM_D hg _ _) hS ⟨by omega, by omega⟩ dX1_replace_70 (fun H locs hP hS => ?_)
          refine lv_lload hx hb dX1_replace_71 (lv_at hl 0 rfl) ?_
          exact zw_l (Post := (fun H9 => va_P (gD g) vwCl (wM g (reU u k p9z q9z) v) H9)) hx hb hr hlocks dX1_replace_73 hS (by unfold reR eOR eNP; (repeat' split) <;> first | rfl | omega) (by unfold reU; split <;> first | exact hP | (exfalso; omega))
        · refine z_lconst (z := 1) hx hb dX1_replace_43 rfl ?_
          refine lv_goto (tgt := 48) hx hb dX1_replace_44 (by decide) ?_
          refine lv_lstore (lv' := [(4, .long (jI 1)), (0, .ref (gM g 0)), (1, .int (iI k)), (2, .int (iI p9z)), (3, .int (iI q9z))]) hx hb dX1_replace_48 hl (by decide) rfl (fun ls hl => ?_)
          refine lv_aload_n hx hb dX1_replace_50 rfl (lv_at hl 1 rfl) ?_
          refine gf_X1_22 hx hb hts hin m22 hown hK hP dX1_replace_51 ?_
          refine lv_iload_n hx hb dX1_replace_54 rfl (lv_at hl 2 rfl) ?_
          refine z_iconst hx hb dX1_replace_55 ?_
          refine as_X1_5 hx hb hK hP (wM_D hg _ _) hS ⟨by omega, by omega⟩ (by decide +kernel) dX1_replace_56 (fun H locs hP hS => ?_)
          refine lv_aload_n hx hb dX1_replace_57 rfl (lv_at hl 1 rfl) ?_
          refine gf_X1_13 hx hb hts hin m13 hown hK hP dX1_replace_58 ?_
          refine lv_iload_n hx hb dX1_replace_61 rfl (lv_at hl 2 rfl) ?_
          refine lv_iload_n hx hb dX1_replace_62 rfl (lv_at hl 3 rfl) ?_
          refine as_X1_2 hx hb hK hP (wM_D hg _ _) hS ⟨by omega, by omega⟩ dX1_replace_63 (fun H locs hP hS => ?_)
          refine lv_aload_n hx hb dX1_replace_64 rfl (lv_at hl 1 rfl) ?_
          refine gf_X1_16 hx hb hts hin m16 hown hK hP dX1_replace_65 ?_
          refine lv_iload_n hx hb dX1_replace_68 rfl (lv_at hl 2 rfl) ?_
          refine lv_iload_n hx hb dX1_replace_69 rfl (lv_at hl 4 rfl) ?_
          refine as_X1_3 hx hb hK hP (wM_D hg _ _) hS ⟨by omega, by omega⟩ dX1_replace_70 (fun H locs hP hS => ?_)
          refine lv_lload hx hb dX1_replace_71 (lv_at hl 0 rfl) ?_
          exact zw_l (Post := (fun H9 => va_P (gD g) vwCl (wM g (reU u k p9z q9z) v) H9)) hx hb hr hlocks dX1_replace_73 hS (by unfold reR eOR eNP; (repeat' split) <;> first | rfl | omega) (by unfold reU; split <;> first | exact hP | (exfalso; omega))
      · refine z_if_ne (tgt := 34) hx hb dX1_replace_27 (by decide) ⟨by decide, by decide⟩ (fun c_9 => (absurd c_9 (by decide))) (fun c_9 => ?_)
        refine lv_ldc2 (v := jI (-9000000000000000001)) hx hb hown (hts _ m51) dX1_replace_30 ?_
        exact zw_l (Post := (fun H9 => va_P (gD g) vwCl (wM g (reU u k p9z q9z) v) H9)) hx hb hr hlocks dX1_replace_33 hS (by unfold reR eOR eNP; (repeat' split) <;> first | rfl | omega) (by unfold reU; split <;> first | exact hP | (exfalso; omega))
    · refine z_if_eq (tgt := 30) hx hb dX1_replace_16 (by decide) ⟨by decide, by decide⟩ (fun c_10 => ?_) (fun c_10 => (absurd c_10 (by decide)))
      refine lv_ldc2 (v := jI (-9000000000000000001)) hx hb hown (hts _ m51) dX1_replace_30 ?_
      exact zw_l (Post := (fun H9 => va_P (gD g) vwCl (wM g (reU u k p9z q9z) v) H9)) hx hb hr hlocks dX1_replace_33 hS (by unfold reR eOR eNP; (repeat' split) <;> first | rfl | omega) (by unfold reU; split <;> first | exact hP | (exfalso; omega))
  · refine z_if_ne (tgt := 12) hx hb dX1_replace_5 (by decide) ⟨by decide, by decide⟩ (fun c_11 => (absurd c_11 (by decide))) (fun c_11 => ?_)
    refine lv_ldc2 (v := jI (-9000000000000000002)) hx hb hown (hts _ m106) dX1_replace_8 ?_
    exact zw_l (Post := (fun H9 => va_P (gD g) vwCl (wM g (reU u k p9z q9z) v) H9)) hx hb hr hlocks dX1_replace_11 hS (by unfold reR eOR eNP; (repeat' split) <;> first | rfl | omega) (by unfold reU; split <;> first | exact hP | (exfalso; omega))
set_option maxHeartbeats 4000000 in
set_option maxRecDepth 100000 in
theorem c_X1_removeLast (l : Launch) (g : GG) (u : ST) (v : VT) (hg : gOk g) (hI : Inv u) : Met l yX1_removeLast wsX1_removeLast (k2_rm 0 0) (va_Pc [.ref (gM g 0)] (fun U => PM g u v U U.heap)) (va_Ql (fun r (_ : Unit) => r = jI (rlR u)) (fun _ t => (fun H9 => va_P (gD g) vwCl (wM g (rlU u) v) H9) t.heap) (aM g)) 0 0 (aM g) := by
  refine Met.ofW (cc := cX1_removeLast) (maxL := 1) (ret := (some .long)) (by decide) rfl ?_
  intro pp ee s mm args below meth cc9 s₁ B hml hv
  obtain ⟨rfl, hPX⟩ := hv
  obtain ⟨hP, hK⟩ := id hPX
  have hx := B.exec
  have hb := B.bytes
  have hr := B.returns
  have hts := atoms_spec (ws := wsX1_removeLast) B.pre
  have hown : s.vm.findClass RX1 = some mm.cls := findClass_of_methodNamed B.named
  have hlocks := B.notSynchronized
  have hin : ∀ w ∈ wsX10, w ∈ wsX1_removeLast := fun w h => List.mem_cons_of_mem _ (List.mem_append_right _ h)
  have m108 : Cond.constantLong RX1 108 (-9000000000000000007) ∈ wsX1_removeLast := by decide +kernel
  have m26 : Cond.fieldLink RX1 26 "TraverseBoardModel" "hasFix" "[Z" ∈ wsX1_removeLast := by decide +kernel
  have m91 : Cond.fieldLink RX1 91 "TraverseBoardModel" "pegs" "I" ∈ wsX1_removeLast := by decide +kernel
  have hS : va_S (aM g) s.heap s.heap [] := va_S.rf
  have hi_bl := iv_bl hI
  have hi_pg := iv_pg hI
  have hi_se := iv_se hI
  have hi_dr := iv_dr hI
  have hl := lv_entry ([.ref (gM g 0)]) (n := 1) (Nat.le_of_ble_eq_true rfl)
  rw [lg_entry_eq]
  generalize (lg_sl ([.ref (gM g 0)]) ++ List.replicate (1 - (lg_sl ([.ref (gM g 0)])).length) Slot.unset).toArray = ls at hl ⊢
  have hl : lv_has ls 1 [(0, .ref (gM g 0))] := hl
  refine lv_aload_n hx hb dX1_removeLast_0 rfl (lv_at hl 0 rfl) ?_
  refine gf_X1_91 (z := zpg u) hx hb hts hin m91 hown hK hP rfl dX1_removeLast_1 ?_
  refine z_if_ne (tgt := 11) hx hb dX1_removeLast_4 (by decide) (by omega) (fun c_1 => ?_) (fun c_1 => ?_)
  · refine lv_aload_n hx hb dX1_removeLast_11 rfl (lv_at hl 0 rfl) ?_
    refine gf_X1_26 hx hb hts hin m26 hown hK hP dX1_removeLast_12 ?_
    refine lv_aload_n hx hb dX1_removeLast_15 rfl (lv_at hl 0 rfl) ?_
    refine gf_X1_91 (z := zpg u) hx hb hts hin m91 hown hK hP rfl dX1_removeLast_16 ?_
    refine z_iconst hx hb dX1_removeLast_19 ?_
    refine as_X1_6 hx hb hK hP (wM_D hg _ _) hS ⟨by omega, by omega⟩ (by decide +kernel) dX1_removeLast_20 (fun H locs hP hS => ?_)
    refine lv_aload_n hx hb dX1_removeLast_21 rfl (lv_at hl 0 rfl) ?_
    refine lv_dup hx hb dX1_removeLast_22 rfl ?_
    refine gf_X1_91 (z := zpg u) hx hb hts hin m91 hown hK hP rfl dX1_removeLast_23 ?_
    refine z_iconst hx hb dX1_removeLast_26 ?_
    refine z_isub hx hb dX1_removeLast_27 ?_
    refine pf_X1_91 hx hb hts hin m91 hown hK hP (wM_D hg _ _) hS dX1_removeLast_28 (fun H locs hP hS => ?_)
    refine lv_aload_n hx hb dX1_removeLast_31 rfl (lv_at hl 0 rfl) ?_
    refine gf_X1_91 (z := (zpg u) - 1) hx hb hts hin m91 hown hK hP rfl dX1_removeLast_32 ?_
    refine z_i2l hx hb (by omega) dX1_removeLast_35 ?_
    exact zw_l (Post := (fun H9 => va_P (gD g) vwCl (wM g (rlU u) v) H9)) hx hb hr hlocks dX1_removeLast_36 hS (by unfold rlR eNO; (repeat' split) <;> first | rfl | omega) (by unfold rlU; split <;> first | exact hP | (exfalso; omega))
  · refine lv_ldc2 (v := jI (-9000000000000000007)) hx hb hown (hts _ m108) dX1_removeLast_7 ?_
    exact zw_l (Post := (fun H9 => va_P (gD g) vwCl (wM g (rlU u) v) H9)) hx hb hr hlocks dX1_removeLast_10 hS (by unfold rlR eNO; (repeat' split) <;> first | rfl | omega) (by unfold rlU; split <;> first | exact hP | (exfalso; omega))
set_option maxHeartbeats 4000000 in
set_option maxRecDepth 100000 in
theorem c_X1_lostMany (l : Launch) (g : GG) (u : ST) (v : VT) (hI : Inv u) : Met l yX1_lostMany wsX1_lostMany (k2_rm 0 0) (va_Pc [.ref (gM g 0)] (fun U => PM g u v U U.heap)) (vp_Si (fun r => r = iI (sz (zlo u) 0 (zpg u)))) 0 0 (fun _ => False) := by
  refine Met.ofW (cc := cX1_lostMany) (maxL := 3) (ret := (some .int)) (by decide) rfl ?_
  intro pp ee s mm args below meth cc9 s₁ B hml hv
  obtain ⟨rfl, hPX⟩ := hv
  obtain ⟨hP, hK⟩ := id hPX
  have hx := B.exec
  have hb := B.bytes
  have hr := B.returns
  have hts := atoms_spec (ws := wsX1_lostMany) B.pre
  have hown : s.vm.findClass RX1 = some mm.cls := findClass_of_methodNamed B.named
  have hlocks := B.notSynchronized
  have hin : ∀ w ∈ wsX10, w ∈ wsX1_lostMany := fun w h => List.mem_cons_of_mem _ (List.mem_append_right _ h)
  have m22 : Cond.fieldLink RX1 22 "TraverseBoardModel" "isLost" "[Z" ∈ wsX1_lostMany := by decide +kernel
  have m91 : Cond.fieldLink RX1 91 "TraverseBoardModel" "pegs" "I" ∈ wsX1_lostMany := by decide +kernel
  have hi_bl := iv_bl hI
  have hi_pg := iv_pg hI
  have hi_se := iv_se hI
  have hi_dr := iv_dr hI
  have hl := lv_entry ([.ref (gM g 0)]) (n := 3) (Nat.le_of_ble_eq_true rfl)
  rw [lg_entry_eq]
  generalize (lg_sl ([.ref (gM g 0)]) ++ List.replicate (3 - (lg_sl ([.ref (gM g 0)])).length) Slot.unset).toArray = ls at hl ⊢
  have hl : lv_has ls 3 [(0, .ref (gM g 0))] := hl
  refine z_iconst hx hb dX1_lostMany_0 ?_
  refine lv_istore_n (lv' := [(1, .int (iI 0)), (0, .ref (gM g 0))]) hx hb dX1_lostMany_1 rfl hl (by decide) rfl (fun ls hl => ?_)
  refine z_iconst hx hb dX1_lostMany_2 ?_
  refine lv_istore_n (lv' := [(2, .int (iI 0)), (1, .int (iI 0)), (0, .ref (gM g 0))]) hx hb dX1_lostMany_3 rfl hl (by decide) rfl (fun ls hl => ?_)
  refine z_loop2 (nL := 3) (fun x t => (0 ≤ t ∧ t ≤ zpg u) ∧ (x = sz (zlo u) 0 t)) (fun x t => (zpg u - t).toNat) (fun x t => [(0, .ref (gM g 0)), (1, .int (iI x)), (2, .int (iI t))]) (fun x t ls hinv hl ih_4 => ?_) 0 0 ls ⟨(by omega), (by exact (sz_0 (Int.le_refl _)).symm)⟩ (lv_sub hl [2, 1, 0] rfl)
  have hinv : (0 ≤ t ∧ t ≤ zpg u) ∧ (x = sz (zlo u) 0 t) := hinv
  obtain ⟨q1z, q3z⟩ := hinv
  have hl : lv_has ls 3 [(0, .ref (gM g 0)), (1, .int (iI x)), (2, .int (iI t))] := hl
  have hl9 := iv_lo hI t
  refine lv_iload_n hx hb dX1_lostMany_4 rfl (lv_at hl 2 rfl) ?_
  refine lv_aload_n hx hb dX1_lostMany_5 rfl (lv_at hl 0 rfl) ?_
  refine gf_X1_91 (z := zpg u) hx hb hts hin m91 hown hK hP rfl dX1_lostMany_6 ?_
  refine z_icmp_ge (tgt := 35) hx hb dX1_lostMany_9 (by decide) (by omega) (by omega) (fun c_1 => ?_) (fun c_1 => ?_)
  · refine lv_iload_n hx hb dX1_lostMany_35 rfl (lv_at hl 1 rfl) ?_
    exact zr_i hx hb hr hlocks dX1_lostMany_36 (by rw [q3z, show t = zpg u by omega])
  · refine lv_iload_n hx hb dX1_lostMany_12 rfl (lv_at hl 1 rfl) ?_
    refine lv_aload_n hx hb dX1_lostMany_13 rfl (lv_at hl 0 rfl) ?_
    refine gf_X1_22 hx hb hts hin m22 hown hK hP dX1_lostMany_14 ?_
    refine lv_iload_n hx hb dX1_lostMany_17 rfl (lv_at hl 2 rfl) ?_
    refine al_X1_5 hx hb hK hP ⟨by omega, by omega⟩ dX1_lostMany_18 ?_
    have hv_2 := iv_lo hI t
    refine z_if_eq (tgt := 26) hx hb dX1_lostMany_19 (by decide) (by omega) (fun c_3 => ?_) (fun c_3 => ?_)
    · refine z_iconst hx hb dX1_lostMany_26 ?_
      refine z_iadd hx hb dX1_lostMany_27 ?_
      refine lv_istore_n (lv' := [(1, .int (iI (x + 0))), (0, .ref (gM g 0)), (2, .int (iI t))]) hx hb dX1_lostMany_28 rfl hl (by decide) rfl (fun ls hl => ?_)
      refine z_iinc (k := 2) (lv' := [(2, .int (iI (t + 1))), (1, .int (iI (x + 0))), (0, .ref (gM g 0))]) hx hb dX1_lostMany_29 hl rfl (by decide) rfl (fun ls hl => ?_)
      refine lv_goto (tgt := 4) hx hb dX1_lostMany_32 (by decide) ?_
      exact ih_4 (x + 0) (t + 1) ls ⟨(by omega), (by rw [sz_s q1z.1]; omega)⟩ (show (zpg u - (t + 1)).toNat < (zpg u - t).toNat by omega) (lv_sub hl [2, 1, 0] rfl)
    · refine z_iconst hx hb dX1_lostMany_22 ?_
      refine lv_goto (tgt := 27) hx hb dX1_lostMany_23 (by decide) ?_
      refine z_iadd hx hb dX1_lostMany_27 ?_
      refine lv_istore_n (lv' := [(1, .int (iI (x + 1))), (0, .ref (gM g 0)), (2, .int (iI t))]) hx hb dX1_lostMany_28 rfl hl (by decide) rfl (fun ls hl => ?_)
      refine z_iinc (k := 2) (lv' := [(2, .int (iI (t + 1))), (1, .int (iI (x + 1))), (0, .ref (gM g 0))]) hx hb dX1_lostMany_29 hl rfl (by decide) rfl (fun ls hl => ?_)
      refine lv_goto (tgt := 4) hx hb dX1_lostMany_32 (by decide) ?_
      exact ih_4 (x + 1) (t + 1) ls ⟨(by omega), (by rw [sz_s q1z.1]; omega)⟩ (show (zpg u - (t + 1)).toNat < (zpg u - t).toNat by omega) (lv_sub hl [2, 1, 0] rfl)
set_option maxHeartbeats 4000000 in
set_option maxRecDepth 100000 in
theorem c_X1_lose (l : Launch) (g : GG) (u : ST) (v : VT) (hg : gOk g) (k : Int) (hI : Inv u) (hb_k : B32 k) : Met l yX1_lose wsX1_lose (k2_rm 2 43) (va_Pc [.ref (gM g 0), .int (iI k)] (fun U => PM g u v U U.heap)) (va_Ql (fun r (_ : Unit) => r = jI (loR u k)) (fun _ t => (fun H9 => va_P (gD g) vwCl (wM g (loU u k) v) H9) t.heap) (aM g)) 0 0 (aM g) := by
  refine Met.ofW (cc := cX1_lose) (maxL := 2) (ret := (some .long)) (by decide) rfl ?_
  intro pp ee s mm args below meth cc9 s₁ B hml hv
  obtain ⟨rfl, hPX⟩ := hv
  obtain ⟨hP, hK⟩ := id hPX
  have hx := B.exec
  have hb := B.bytes
  have hr := B.returns
  have hts := atoms_spec (ws := wsX1_lose) B.pre
  have hown : s.vm.findClass RX1 = some mm.cls := findClass_of_methodNamed B.named
  have hlocks := B.notSynchronized
  have hin : ∀ w ∈ wsX10, w ∈ wsX1_lose := fun w h => List.mem_cons_of_mem _ (List.mem_append_right _ h)
  have m106 : Cond.constantLong RX1 106 (-9000000000000000002) ∈ wsX1_lose := by decide +kernel
  have m110 : Cond.constantLong RX1 110 (-9000000000000000006) ∈ wsX1_lose := by decide +kernel
  have m22 : Cond.fieldLink RX1 22 "TraverseBoardModel" "isLost" "[Z" ∈ wsX1_lose := by decide +kernel
  have hS : va_S (aM g) s.heap s.heap [] := va_S.rf
  have hi_bl := iv_bl hI
  have hi_pg := iv_pg hI
  have hi_se := iv_se hI
  have hi_dr := iv_dr hI
  have hl := lv_entry ([.ref (gM g 0), .int (iI k)]) (n := 2) (Nat.le_of_ble_eq_true rfl)
  rw [lg_entry_eq]
  generalize (lg_sl ([.ref (gM g 0), .int (iI k)]) ++ List.replicate (2 - (lg_sl ([.ref (gM g 0), .int (iI k)])).length) Slot.unset).toArray = ls at hl ⊢
  have hl : lv_has ls 2 [(0, .ref (gM g 0)), (1, .int (iI k))] := hl
  refine lv_aload_n hx hb dX1_lose_0 rfl (lv_at hl 0 rfl) ?_
  refine lv_iload_n hx hb dX1_lose_1 rfl (lv_at hl 1 rfl) ?_
  refine zV_z (As := [.int (iI k)]) (rest := []) ⟨hx, hb, hml, hown, hts⟩ (PM g u v) (PM_blind g u v) (PM_mv hP hK) (rcM hK hP) (c_X1_isPegNumber l g u v k hI (by omega)) (cwV 1 hts gX1_lose_X1_isPegNumber rfl rfl rfl (by decide +kernel) ⟨Nat.le_of_ble_eq_true rfl, Nat.le_of_ble_eq_true rfl⟩) rfl hl.1 rfl (Nat.le_of_ble_eq_true rfl) dX1_lose_2 ⟨Nat.zero_le _, Nat.zero_le _⟩ (fun c_1 => ?_) (fun c_1 => ?_)
  · refine z_if_ne (tgt := 12) hx hb dX1_lose_5 (by decide) ⟨by decide, by decide⟩ (fun c_2 => ?_) (fun c_2 => (absurd c_2 (by decide)))
    refine lv_aload_n hx hb dX1_lose_12 rfl (lv_at hl 0 rfl) ?_
    refine gf_X1_22 hx hb hts hin m22 hown hK hP dX1_lose_13 ?_
    refine lv_iload_n hx hb dX1_lose_16 rfl (lv_at hl 1 rfl) ?_
    refine al_X1_5 hx hb hK hP ⟨by omega, by omega⟩ dX1_lose_17 ?_
    have hv_3 := iv_lo hI k
    refine z_if_eq (tgt := 25) hx hb dX1_lose_18 (by decide) (by omega) (fun c_4 => ?_) (fun c_4 => ?_)
    · refine lv_aload_n hx hb dX1_lose_25 rfl (lv_at hl 0 rfl) ?_
      refine gf_X1_22 hx hb hts hin m22 hown hK hP dX1_lose_26 ?_
      refine lv_iload_n hx hb dX1_lose_29 rfl (lv_at hl 1 rfl) ?_
      refine z_iconst hx hb dX1_lose_30 ?_
      refine as_X1_5 hx hb hK hP (wM_D hg _ _) hS ⟨by omega, by omega⟩ (by decide +kernel) dX1_lose_31 (fun H locs hP hS => ?_)
      refine lv_aload_n hx hb dX1_lose_32 rfl (lv_at hl 0 rfl) ?_
      refine zV_i (As := []) (rest := []) ⟨hx, hb, hml, hown, hts⟩ (PM g (ulo u (zup (zlo u) k 1)) v) (PM_blind g (ulo u (zup (zlo u) k 1)) v) (PM_mv hP hK) (rcM hK hP) (c_X1_lostMany l g ((ulo u (zup (zlo u) k 1))) v (inv_lo hI k 1 (by decide))) (cwV 0 hts gX1_lose_X1_lostMany rfl rfl rfl (by decide +kernel) ⟨Nat.le_of_ble_eq_true rfl, Nat.le_of_ble_eq_true rfl⟩) rfl hl.1 rfl (Nat.le_of_ble_eq_true rfl) dX1_lose_33 ⟨Nat.zero_le _, Nat.zero_le _⟩ ?_
      refine z_i2l hx hb (lo_b hI k) dX1_lose_36 ?_
      exact zw_l (Post := (fun H9 => va_P (gD g) vwCl (wM g (loU u k) v) H9)) hx hb hr hlocks dX1_lose_37 hS (by unfold loR eNP eWS; (repeat' split) <;> first | rfl | omega) (by unfold loU; split <;> first | exact hP | (exfalso; omega))
    · refine lv_ldc2 (v := jI (-9000000000000000006)) hx hb hown (hts _ m110) dX1_lose_21 ?_
      exact zw_l (Post := (fun H9 => va_P (gD g) vwCl (wM g (loU u k) v) H9)) hx hb hr hlocks dX1_lose_24 hS (by unfold loR eNP eWS; (repeat' split) <;> first | rfl | omega) (by unfold loU; split <;> first | exact hP | (exfalso; omega))
  · refine z_if_ne (tgt := 12) hx hb dX1_lose_5 (by decide) ⟨by decide, by decide⟩ (fun c_5 => (absurd c_5 (by decide))) (fun c_5 => ?_)
    refine lv_ldc2 (v := jI (-9000000000000000002)) hx hb hown (hts _ m106) dX1_lose_8 ?_
    exact zw_l (Post := (fun H9 => va_P (gD g) vwCl (wM g (loU u k) v) H9)) hx hb hr hlocks dX1_lose_11 hS (by unfold loR eNP eWS; (repeat' split) <;> first | rfl | omega) (by unfold loU; split <;> first | exact hP | (exfalso; omega))
set_option maxHeartbeats 4000000 in
set_option maxRecDepth 100000 in
theorem c_X1_setLeeway (l : Launch) (g : GG) (u : ST) (v : VT) (hg : gOk g) (k : Int) (w : Int) (hI : Inv u) (hb_k : B32 k) (hb_w : B32 w) : Met l yX1_setLeeway wsX1_setLeeway (k2_rm 2 43) (va_Pc [.ref (gM g 0), .int (iI k), .int (iI w)] (fun U => PM g u v U U.heap)) (va_Ql (fun r (_ : Unit) => r = jI (slR u k w)) (fun _ t => (fun H9 => va_P (gD g) vwCl (wM g (slU u k w) v) H9) t.heap) (aM g)) 0 0 (aM g) := by
  refine Met.ofW (cc := cX1_setLeeway) (maxL := 5) (ret := (some .long)) (by decide) rfl ?_
  intro pp ee s mm args below meth cc9 s₁ B hml hv
  obtain ⟨rfl, hPX⟩ := hv
  obtain ⟨hP, hK⟩ := id hPX
  have hx := B.exec
  have hb := B.bytes
  have hr := B.returns
  have hts := atoms_spec (ws := wsX1_setLeeway) B.pre
  have hown : s.vm.findClass RX1 = some mm.cls := findClass_of_methodNamed B.named
  have hlocks := B.notSynchronized
  have hin : ∀ w ∈ wsX10, w ∈ wsX1_setLeeway := fun w h => List.mem_cons_of_mem _ (List.mem_append_right _ h)
  have m106 : Cond.constantLong RX1 106 (-9000000000000000002) ∈ wsX1_setLeeway := by decide +kernel
  have m19 : Cond.fieldLink RX1 19 "TraverseBoardModel" "leeway" "[I" ∈ wsX1_setLeeway := by decide +kernel
  have m51 : Cond.constantLong RX1 51 (-9000000000000000001) ∈ wsX1_setLeeway := by decide +kernel
  have hS : va_S (aM g) s.heap s.heap [] := va_S.rf
  have hi_bl := iv_bl hI
  have hi_pg := iv_pg hI
  have hi_se := iv_se hI
  have hi_dr := iv_dr hI
  have hl := lv_entry ([.ref (gM g 0), .int (iI k), .int (iI w)]) (n := 5) (Nat.le_of_ble_eq_true rfl)
  rw [lg_entry_eq]
  generalize (lg_sl ([.ref (gM g 0), .int (iI k), .int (iI w)]) ++ List.replicate (5 - (lg_sl ([.ref (gM g 0), .int (iI k), .int (iI w)])).length) Slot.unset).toArray = ls at hl ⊢
  have hl : lv_has ls 5 [(0, .ref (gM g 0)), (1, .int (iI k)), (2, .int (iI w))] := hl
  refine lv_aload_n hx hb dX1_setLeeway_0 rfl (lv_at hl 0 rfl) ?_
  refine lv_iload_n hx hb dX1_setLeeway_1 rfl (lv_at hl 1 rfl) ?_
  refine zV_z (As := [.int (iI k)]) (rest := []) ⟨hx, hb, hml, hown, hts⟩ (PM g u v) (PM_blind g u v) (PM_mv hP hK) (rcM hK hP) (c_X1_isPegNumber l g u v k hI (by omega)) (cwV 1 hts gX1_setLeeway_X1_isPegNumber rfl rfl rfl (by decide +kernel) ⟨Nat.le_of_ble_eq_true rfl, Nat.le_of_ble_eq_true rfl⟩) rfl hl.1 rfl (Nat.le_of_ble_eq_true rfl) dX1_setLeeway_2 ⟨Nat.zero_le _, Nat.zero_le _⟩ (fun c_1 => ?_) (fun c_1 => ?_)
  · refine z_if_ne (tgt := 12) hx hb dX1_setLeeway_5 (by decide) ⟨by decide, by decide⟩ (fun c_2 => ?_) (fun c_2 => (absurd c_2 (by decide)))
    refine lv_iload_n hx hb dX1_setLeeway_12 rfl (lv_at hl 2 rfl) ?_
    refine z_bipush hx hb dX1_setLeeway_13 (by decide +kernel) ?_
    refine z_iconst hx hb dX1_setLeeway_15 ?_
    refine zS_z (As := [.int (iI w), .int (iI ((-2))), .int (iI 2)]) (rest := []) ⟨hx, hb, hml, hown, hts⟩ (PT) PT_blind PT_mv  (c_X1_within l g w ((-2)) 2 (by omega) (by omega) (by omega)) (va_cwS 3 hts gX1_setLeeway_X1_within rfl rfl rfl (by decide +kernel) ⟨Nat.le_of_ble_eq_true rfl, Nat.le_of_ble_eq_true rfl⟩) rfl hl.1 rfl (Nat.le_of_ble_eq_true rfl) dX1_setLeeway_16 ⟨Nat.zero_le _, Nat.zero_le _⟩ (fun c_3 => ?_) (fun c_3 => ?_)
    · refine z_if_ne (tgt := 26) hx hb dX1_setLeeway_19 (by decide) ⟨by decide, by decide⟩ (fun c_4 => ?_) (fun c_4 => (absurd c_4 (by decide)))
      refine lv_aload_n hx hb dX1_setLeeway_26 rfl (lv_at hl 0 rfl) ?_
      refine gf_X1_19 hx hb hts hin m19 hown hK hP dX1_setLeeway_27 ?_
      refine lv_iload_n hx hb dX1_setLeeway_30 rfl (lv_at hl 1 rfl) ?_
      refine al_X1_4 hx hb hK hP ⟨by omega, by omega⟩ dX1_setLeeway_31 ?_
      have hv_5 := iv_le hI k
      refine z_i2l hx hb (by omega) dX1_setLeeway_32 ?_
      refine lv_lstore_n (lv' := [(3, .long (jI (zle u k))), (0, .ref (gM g 0)), (1, .int (iI k)), (2, .int (iI w))]) hx hb dX1_setLeeway_33 rfl hl (by decide) rfl (fun ls hl => ?_)
      refine lv_aload_n hx hb dX1_setLeeway_34 rfl (lv_at hl 1 rfl) ?_
      refine gf_X1_19 hx hb hts hin m19 hown hK hP dX1_setLeeway_35 ?_
      refine lv_iload_n hx hb dX1_setLeeway_38 rfl (lv_at hl 2 rfl) ?_
      refine lv_iload_n hx hb dX1_setLeeway_39 rfl (lv_at hl 3 rfl) ?_
      refine as_X1_4 hx hb hK hP (wM_D hg _ _) hS ⟨by omega, by omega⟩ dX1_setLeeway_40 (fun H locs hP hS => ?_)
      refine lv_lload_n hx hb dX1_setLeeway_41 rfl (lv_at hl 0 rfl) ?_
      exact zw_l (Post := (fun H9 => va_P (gD g) vwCl (wM g (slU u k w) v) H9)) hx hb hr hlocks dX1_setLeeway_42 hS (by unfold slR eOR eNP; (repeat' split) <;> first | rfl | omega) (by unfold slU; split <;> first | exact hP | (exfalso; omega))
    · refine z_if_ne (tgt := 26) hx hb dX1_setLeeway_19 (by decide) ⟨by decide, by decide⟩ (fun c_6 => (absurd c_6 (by decide))) (fun c_6 => ?_)
      refine lv_ldc2 (v := jI (-9000000000000000001)) hx hb hown (hts _ m51) dX1_setLeeway_22 ?_
      exact zw_l (Post := (fun H9 => va_P (gD g) vwCl (wM g (slU u k w) v) H9)) hx hb hr hlocks dX1_setLeeway_25 hS (by unfold slR eOR eNP; (repeat' split) <;> first | rfl | omega) (by unfold slU; split <;> first | exact hP | (exfalso; omega))
  · refine z_if_ne (tgt := 12) hx hb dX1_setLeeway_5 (by decide) ⟨by decide, by decide⟩ (fun c_7 => (absurd c_7 (by decide))) (fun c_7 => ?_)
    refine lv_ldc2 (v := jI (-9000000000000000002)) hx hb hown (hts _ m106) dX1_setLeeway_8 ?_
    exact zw_l (Post := (fun H9 => va_P (gD g) vwCl (wM g (slU u k w) v) H9)) hx hb hr hlocks dX1_setLeeway_11 hS (by unfold slR eOR eNP; (repeat' split) <;> first | rfl | omega) (by unfold slU; split <;> first | exact hP | (exfalso; omega))
