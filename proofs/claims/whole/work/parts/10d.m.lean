/-! the reference, by program (genm.py): X1_setCurrent X1_pegCount X1_pointNow X1_speedNow X1_pointOf X1_speedOf X1_speedTowards X1_fixMany -/
set_option maxHeartbeats 4000000 in
set_option maxRecDepth 100000 in
theorem c_X1_setCurrent (l : Launch) (g : GG) (u : ST) (v : VT) (hg : gOk g) (a : Int) (b : Int) (hI : Inv u) (hb_a : B32 a) (hb_b : B32 b) : Met l yX1_setCurrent wsX1_setCurrent (k2_rm 2 42) (va_Pc [.ref (gM g 0), .int (iI a), .int (iI b)] (fun U => PM g u v U U.heap)) (va_Ql (fun r (_ : Unit) => r = jI (scR u a b)) (fun _ t => (fun H9 => va_P (gD g) vwCl (wM g (scU u a b) v) H9) t.heap) (aM g)) 0 0 (aM g) := by
  refine Met.ofW (cc := cX1_setCurrent) (maxL := 5) (ret := (some .long)) (by decide) rfl ?_
  intro pp ee s mm args below meth cc9 s₁ B hml hv
  obtain ⟨rfl, hPX⟩ := hv
  obtain ⟨hP, hK⟩ := id hPX
  have hx := B.exec
  have hb := B.bytes
  have hr := B.returns
  have hts := atoms_spec (ws := wsX1_setCurrent) B.pre
  have hown : s.vm.findClass RX1 = some mm.cls := findClass_of_methodNamed B.named
  have hlocks := B.notSynchronized
  have hin : ∀ w ∈ wsX10, w ∈ wsX1_setCurrent := fun w h => List.mem_cons_of_mem _ (List.mem_append_right _ h)
  have m116 : Cond.fieldLink RX1 116 "TraverseBoardModel" "drift" "I" ∈ wsX1_setCurrent := by decide +kernel
  have m119 : Cond.fieldLink RX1 119 "TraverseBoardModel" "set" "I" ∈ wsX1_setCurrent := by decide +kernel
  have m51 : Cond.constantLong RX1 51 (-9000000000000000001) ∈ wsX1_setCurrent := by decide +kernel
  have hS : va_S (aM g) s.heap s.heap [] := va_S.rf
  have hi_bl := iv_bl hI
  have hi_pg := iv_pg hI
  have hi_se := iv_se hI
  have hi_dr := iv_dr hI
  have hl := lv_entry ([.ref (gM g 0), .int (iI a), .int (iI b)]) (n := 5) (Nat.le_of_ble_eq_true rfl)
  rw [lg_entry_eq]
  generalize (lg_sl ([.ref (gM g 0), .int (iI a), .int (iI b)]) ++ List.replicate (5 - (lg_sl ([.ref (gM g 0), .int (iI a), .int (iI b)])).length) Slot.unset).toArray = ls at hl ⊢
  have hl : lv_has ls 5 [(0, .ref (gM g 0)), (1, .int (iI a)), (2, .int (iI b))] := hl
  refine lv_iload_n hx hb dX1_setCurrent_0 rfl (lv_at hl 1 rfl) ?_
  refine zS_z (As := [.int (iI a)]) (rest := []) ⟨hx, hb, hml, hown, hts⟩ (PT) PT_blind PT_mv  (c_X1_isPoint l g a (by omega)) (va_cwS 1 hts gX1_setCurrent_X1_isPoint rfl rfl rfl (by decide +kernel) ⟨Nat.le_of_ble_eq_true rfl, Nat.le_of_ble_eq_true rfl⟩) rfl hl.1 rfl (Nat.le_of_ble_eq_true rfl) dX1_setCurrent_1 ⟨Nat.zero_le _, Nat.zero_le _⟩ (fun c_1 => ?_) (fun c_1 => ?_)
  · refine z_if_eq (tgt := 17) hx hb dX1_setCurrent_4 (by decide) ⟨by decide, by decide⟩ (fun c_2 => (absurd c_2 (by decide))) (fun c_2 => ?_)
    refine lv_iload_n hx hb dX1_setCurrent_7 rfl (lv_at hl 2 rfl) ?_
    refine z_iconst hx hb dX1_setCurrent_8 ?_
    refine z_bipush hx hb dX1_setCurrent_9 (by decide +kernel) ?_
    refine zS_z (As := [.int (iI b), .int (iI 0), .int (iI 50)]) (rest := []) ⟨hx, hb, hml, hown, hts⟩ (PT) PT_blind PT_mv  (c_X1_within l g b 0 50 (by omega) (by omega) (by omega)) (va_cwS 3 hts gX1_setCurrent_X1_within rfl rfl rfl (by decide +kernel) ⟨Nat.le_of_ble_eq_true rfl, Nat.le_of_ble_eq_true rfl⟩) rfl hl.1 rfl (Nat.le_of_ble_eq_true rfl) dX1_setCurrent_11 ⟨Nat.zero_le _, Nat.zero_le _⟩ (fun c_3 => ?_) (fun c_3 => ?_)
    · refine z_if_ne (tgt := 21) hx hb dX1_setCurrent_14 (by decide) ⟨by decide, by decide⟩ (fun c_4 => ?_) (fun c_4 => (absurd c_4 (by decide)))
      refine lv_aload_n hx hb dX1_setCurrent_21 rfl (lv_at hl 0 rfl) ?_
      refine gf_X1_116 (z := zdr u) hx hb hts hin m116 hown hK hP rfl dX1_setCurrent_22 ?_
      refine z_i2l hx hb (by omega) dX1_setCurrent_25 ?_
      refine lv_lstore_n (lv' := [(3, .long (jI (zdr u))), (0, .ref (gM g 0)), (1, .int (iI a)), (2, .int (iI b))]) hx hb dX1_setCurrent_26 rfl hl (by decide) rfl (fun ls hl => ?_)
      refine lv_aload_n hx hb dX1_setCurrent_27 rfl (lv_at hl 1 rfl) ?_
      refine lv_iload_n hx hb dX1_setCurrent_28 rfl (lv_at hl 2 rfl) ?_
      refine pf_X1_119 hx hb hts hin m119 hown hK hP (wM_D hg _ _) hS dX1_setCurrent_29 (fun H locs hP hS => ?_)
      refine lv_aload_n hx hb dX1_setCurrent_32 rfl (lv_at hl 1 rfl) ?_
      refine lv_iload_n hx hb dX1_setCurrent_33 rfl (lv_at hl 3 rfl) ?_
      refine pf_X1_116 hx hb hts hin m116 hown hK hP (wM_D hg _ _) hS dX1_setCurrent_34 (fun H locs hP hS => ?_)
      refine lv_lload_n hx hb dX1_setCurrent_37 rfl (lv_at hl 0 rfl) ?_
      exact zw_l (Post := (fun H9 => va_P (gD g) vwCl (wM g (scU u a b) v) H9)) hx hb hr hlocks dX1_setCurrent_38 hS (by unfold scR eOR; (repeat' split) <;> first | rfl | omega) (by unfold scU; split <;> first | exact hP | (exfalso; omega))
    · refine z_if_ne (tgt := 21) hx hb dX1_setCurrent_14 (by decide) ⟨by decide, by decide⟩ (fun c_5 => (absurd c_5 (by decide))) (fun c_5 => ?_)
      refine lv_ldc2 (v := jI (-9000000000000000001)) hx hb hown (hts _ m51) dX1_setCurrent_17 ?_
      exact zw_l (Post := (fun H9 => va_P (gD g) vwCl (wM g (scU u a b) v) H9)) hx hb hr hlocks dX1_setCurrent_20 hS (by unfold scR eOR; (repeat' split) <;> first | rfl | omega) (by unfold scU; split <;> first | exact hP | (exfalso; omega))
  · refine z_if_eq (tgt := 17) hx hb dX1_setCurrent_4 (by decide) ⟨by decide, by decide⟩ (fun c_6 => ?_) (fun c_6 => (absurd c_6 (by decide)))
    refine lv_ldc2 (v := jI (-9000000000000000001)) hx hb hown (hts _ m51) dX1_setCurrent_17 ?_
    exact zw_l (Post := (fun H9 => va_P (gD g) vwCl (wM g (scU u a b) v) H9)) hx hb hr hlocks dX1_setCurrent_20 hS (by unfold scR eOR; (repeat' split) <;> first | rfl | omega) (by unfold scU; split <;> first | exact hP | (exfalso; omega))
set_option maxHeartbeats 4000000 in
set_option maxRecDepth 100000 in
theorem c_X1_pegCount (l : Launch) (g : GG) (u : ST) (v : VT) (hI : Inv u) : Met l yX1_pegCount wsX1_pegCount (k2_rm 0 0) (va_Pc [.ref (gM g 0)] (fun U => PM g u v U U.heap)) (vp_Sl (fun r => r = jI (zpg u))) 0 0 (fun _ => False) := by
  refine Met.ofW (cc := cX1_pegCount) (maxL := 1) (ret := (some .long)) (by decide) rfl ?_
  intro pp ee s mm args below meth cc9 s₁ B hml hv
  obtain ⟨rfl, hPX⟩ := hv
  obtain ⟨hP, hK⟩ := id hPX
  have hx := B.exec
  have hb := B.bytes
  have hr := B.returns
  have hts := atoms_spec (ws := wsX1_pegCount) B.pre
  have hown : s.vm.findClass RX1 = some mm.cls := findClass_of_methodNamed B.named
  have hlocks := B.notSynchronized
  have hin : ∀ w ∈ wsX10, w ∈ wsX1_pegCount := fun w h => List.mem_cons_of_mem _ (List.mem_append_right _ h)
  have m91 : Cond.fieldLink RX1 91 "TraverseBoardModel" "pegs" "I" ∈ wsX1_pegCount := by decide +kernel
  have hi_bl := iv_bl hI
  have hi_pg := iv_pg hI
  have hi_se := iv_se hI
  have hi_dr := iv_dr hI
  have hl := lv_entry ([.ref (gM g 0)]) (n := 1) (Nat.le_of_ble_eq_true rfl)
  rw [lg_entry_eq]
  generalize (lg_sl ([.ref (gM g 0)]) ++ List.replicate (1 - (lg_sl ([.ref (gM g 0)])).length) Slot.unset).toArray = ls at hl ⊢
  have hl : lv_has ls 1 [(0, .ref (gM g 0))] := hl
  refine lv_aload_n hx hb dX1_pegCount_0 rfl (lv_at hl 0 rfl) ?_
  refine gf_X1_91 (z := zpg u) hx hb hts hin m91 hown hK hP rfl dX1_pegCount_1 ?_
  refine z_i2l hx hb (by omega) dX1_pegCount_4 ?_
  exact zr_l hx hb hr hlocks dX1_pegCount_5 (by first | rfl | omega)
set_option maxHeartbeats 4000000 in
set_option maxRecDepth 100000 in
theorem c_X1_pointNow (l : Launch) (g : GG) (u : ST) (v : VT) (k : Int) (hI : Inv u) (k0z : 0 ≤ k) (k1z : k < 48) : Met l yX1_pointNow wsX1_pointNow (k2_rm 0 0) (va_Pc [.ref (gM g 0), .int (iI k)] (fun U => PM g u v U U.heap)) (vp_Sl (fun r => r = jI (ptc u k))) 0 0 (fun _ => False) := by
  refine Met.ofW (cc := cX1_pointNow) (maxL := 2) (ret := (some .long)) (by decide) rfl ?_
  intro pp ee s mm args below meth cc9 s₁ B hml hv
  obtain ⟨rfl, hPX⟩ := hv
  obtain ⟨hP, hK⟩ := id hPX
  have hx := B.exec
  have hb := B.bytes
  have hr := B.returns
  have hts := atoms_spec (ws := wsX1_pointNow) B.pre
  have hown : s.vm.findClass RX1 = some mm.cls := findClass_of_methodNamed B.named
  have hlocks := B.notSynchronized
  have hin : ∀ w ∈ wsX10, w ∈ wsX1_pointNow := fun w h => List.mem_cons_of_mem _ (List.mem_append_right _ h)
  have m110 : Cond.constantLong RX1 110 (-9000000000000000006) ∈ wsX1_pointNow := by decide +kernel
  have m13 : Cond.fieldLink RX1 13 "TraverseBoardModel" "point" "[I" ∈ wsX1_pointNow := by decide +kernel
  have m22 : Cond.fieldLink RX1 22 "TraverseBoardModel" "isLost" "[Z" ∈ wsX1_pointNow := by decide +kernel
  have hi_bl := iv_bl hI
  have hi_pg := iv_pg hI
  have hi_se := iv_se hI
  have hi_dr := iv_dr hI
  have hl := lv_entry ([.ref (gM g 0), .int (iI k)]) (n := 2) (Nat.le_of_ble_eq_true rfl)
  rw [lg_entry_eq]
  generalize (lg_sl ([.ref (gM g 0), .int (iI k)]) ++ List.replicate (2 - (lg_sl ([.ref (gM g 0), .int (iI k)])).length) Slot.unset).toArray = ls at hl ⊢
  have hl : lv_has ls 2 [(0, .ref (gM g 0)), (1, .int (iI k))] := hl
  refine lv_aload_n hx hb dX1_pointNow_0 rfl (lv_at hl 0 rfl) ?_
  refine gf_X1_22 hx hb hts hin m22 hown hK hP dX1_pointNow_1 ?_
  refine lv_iload_n hx hb dX1_pointNow_4 rfl (lv_at hl 1 rfl) ?_
  refine al_X1_5 hx hb hK hP ⟨by omega, by omega⟩ dX1_pointNow_5 ?_
  have hv_1 := iv_lo hI k
  refine z_if_eq (tgt := 15) hx hb dX1_pointNow_6 (by decide) (by omega) (fun c_2 => ?_) (fun c_2 => ?_)
  · refine lv_aload_n hx hb dX1_pointNow_15 rfl (lv_at hl 0 rfl) ?_
    refine gf_X1_13 hx hb hts hin m13 hown hK hP dX1_pointNow_16 ?_
    refine lv_iload_n hx hb dX1_pointNow_19 rfl (lv_at hl 1 rfl) ?_
    refine al_X1_2 hx hb hK hP ⟨by omega, by omega⟩ dX1_pointNow_20 ?_
    have hv_3 := iv_po hI k
    refine z_i2l hx hb (by omega) dX1_pointNow_21 ?_
    exact zr_l hx hb hr hlocks dX1_pointNow_22 (by unfold ptc eWS; (repeat' split) <;> first | rfl | omega)
  · refine lv_ldc2 (v := jI (-9000000000000000006)) hx hb hown (hts _ m110) dX1_pointNow_9 ?_
    refine lv_goto (tgt := 22) hx hb dX1_pointNow_12 (by decide) ?_
    exact zr_l hx hb hr hlocks dX1_pointNow_22 (by unfold ptc eWS; (repeat' split) <;> first | rfl | omega)
set_option maxHeartbeats 4000000 in
set_option maxRecDepth 100000 in
theorem c_X1_speedNow (l : Launch) (g : GG) (u : ST) (v : VT) (k : Int) (hI : Inv u) (k0z : 0 ≤ k) (k1z : k < 48) : Met l yX1_speedNow wsX1_speedNow (k2_rm 0 0) (va_Pc [.ref (gM g 0), .int (iI k)] (fun U => PM g u v U U.heap)) (vp_Sl (fun r => r = jI (spc u k))) 0 0 (fun _ => False) := by
  refine Met.ofW (cc := cX1_speedNow) (maxL := 2) (ret := (some .long)) (by decide) rfl ?_
  intro pp ee s mm args below meth cc9 s₁ B hml hv
  obtain ⟨rfl, hPX⟩ := hv
  obtain ⟨hP, hK⟩ := id hPX
  have hx := B.exec
  have hb := B.bytes
  have hr := B.returns
  have hts := atoms_spec (ws := wsX1_speedNow) B.pre
  have hown : s.vm.findClass RX1 = some mm.cls := findClass_of_methodNamed B.named
  have hlocks := B.notSynchronized
  have hin : ∀ w ∈ wsX10, w ∈ wsX1_speedNow := fun w h => List.mem_cons_of_mem _ (List.mem_append_right _ h)
  have m110 : Cond.constantLong RX1 110 (-9000000000000000006) ∈ wsX1_speedNow := by decide +kernel
  have m16 : Cond.fieldLink RX1 16 "TraverseBoardModel" "speed" "[I" ∈ wsX1_speedNow := by decide +kernel
  have m22 : Cond.fieldLink RX1 22 "TraverseBoardModel" "isLost" "[Z" ∈ wsX1_speedNow := by decide +kernel
  have hi_bl := iv_bl hI
  have hi_pg := iv_pg hI
  have hi_se := iv_se hI
  have hi_dr := iv_dr hI
  have hl := lv_entry ([.ref (gM g 0), .int (iI k)]) (n := 2) (Nat.le_of_ble_eq_true rfl)
  rw [lg_entry_eq]
  generalize (lg_sl ([.ref (gM g 0), .int (iI k)]) ++ List.replicate (2 - (lg_sl ([.ref (gM g 0), .int (iI k)])).length) Slot.unset).toArray = ls at hl ⊢
  have hl : lv_has ls 2 [(0, .ref (gM g 0)), (1, .int (iI k))] := hl
  refine lv_aload_n hx hb dX1_speedNow_0 rfl (lv_at hl 0 rfl) ?_
  refine gf_X1_22 hx hb hts hin m22 hown hK hP dX1_speedNow_1 ?_
  refine lv_iload_n hx hb dX1_speedNow_4 rfl (lv_at hl 1 rfl) ?_
  refine al_X1_5 hx hb hK hP ⟨by omega, by omega⟩ dX1_speedNow_5 ?_
  have hv_1 := iv_lo hI k
  refine z_if_eq (tgt := 15) hx hb dX1_speedNow_6 (by decide) (by omega) (fun c_2 => ?_) (fun c_2 => ?_)
  · refine lv_aload_n hx hb dX1_speedNow_15 rfl (lv_at hl 0 rfl) ?_
    refine gf_X1_16 hx hb hts hin m16 hown hK hP dX1_speedNow_16 ?_
    refine lv_iload_n hx hb dX1_speedNow_19 rfl (lv_at hl 1 rfl) ?_
    refine al_X1_3 hx hb hK hP ⟨by omega, by omega⟩ dX1_speedNow_20 ?_
    have hv_3 := iv_sp hI k
    refine z_i2l hx hb (by omega) dX1_speedNow_21 ?_
    exact zr_l hx hb hr hlocks dX1_speedNow_22 (by unfold spc eWS; (repeat' split) <;> first | rfl | omega)
  · refine lv_ldc2 (v := jI (-9000000000000000006)) hx hb hown (hts _ m110) dX1_speedNow_9 ?_
    refine lv_goto (tgt := 22) hx hb dX1_speedNow_12 (by decide) ?_
    exact zr_l hx hb hr hlocks dX1_speedNow_22 (by unfold spc eWS; (repeat' split) <;> first | rfl | omega)
set_option maxHeartbeats 4000000 in
set_option maxRecDepth 100000 in
theorem c_X1_pointOf (l : Launch) (g : GG) (u : ST) (v : VT) (k : Int) (hI : Inv u) (hb_k : B32 k) : Met l yX1_pointOf wsX1_pointOf (k2_rm 2 43) (va_Pc [.ref (gM g 0), .int (iI k)] (fun U => PM g u v U U.heap)) (vp_Sl (fun r => r = jI (poR u k))) 0 0 (fun _ => False) := by
  refine Met.ofW (cc := cX1_pointOf) (maxL := 2) (ret := (some .long)) (by decide) rfl ?_
  intro pp ee s mm args below meth cc9 s₁ B hml hv
  obtain ⟨rfl, hPX⟩ := hv
  obtain ⟨hP, hK⟩ := id hPX
  have hx := B.exec
  have hb := B.bytes
  have hr := B.returns
  have hts := atoms_spec (ws := wsX1_pointOf) B.pre
  have hown : s.vm.findClass RX1 = some mm.cls := findClass_of_methodNamed B.named
  have hlocks := B.notSynchronized
  have hin : ∀ w ∈ wsX10, w ∈ wsX1_pointOf := fun w h => List.mem_cons_of_mem _ (List.mem_append_right _ h)
  have m106 : Cond.constantLong RX1 106 (-9000000000000000002) ∈ wsX1_pointOf := by decide +kernel
  have hi_bl := iv_bl hI
  have hi_pg := iv_pg hI
  have hi_se := iv_se hI
  have hi_dr := iv_dr hI
  have hl := lv_entry ([.ref (gM g 0), .int (iI k)]) (n := 2) (Nat.le_of_ble_eq_true rfl)
  rw [lg_entry_eq]
  generalize (lg_sl ([.ref (gM g 0), .int (iI k)]) ++ List.replicate (2 - (lg_sl ([.ref (gM g 0), .int (iI k)])).length) Slot.unset).toArray = ls at hl ⊢
  have hl : lv_has ls 2 [(0, .ref (gM g 0)), (1, .int (iI k))] := hl
  refine lv_aload_n hx hb dX1_pointOf_0 rfl (lv_at hl 0 rfl) ?_
  refine lv_iload_n hx hb dX1_pointOf_1 rfl (lv_at hl 1 rfl) ?_
  refine zV_z (As := [.int (iI k)]) (rest := []) ⟨hx, hb, hml, hown, hts⟩ (PM g u v) (PM_blind g u v) (PM_mv hP hK) (rcM hK hP) (c_X1_isPegNumber l g u v k hI (by omega)) (cwV 1 hts gX1_pointOf_X1_isPegNumber rfl rfl rfl (by decide +kernel) ⟨Nat.le_of_ble_eq_true rfl, Nat.le_of_ble_eq_true rfl⟩) rfl hl.1 rfl (Nat.le_of_ble_eq_true rfl) dX1_pointOf_2 ⟨Nat.zero_le _, Nat.zero_le _⟩ (fun c_1 => ?_) (fun c_1 => ?_)
  · refine z_if_eq (tgt := 16) hx hb dX1_pointOf_5 (by decide) ⟨by decide, by decide⟩ (fun c_2 => (absurd c_2 (by decide))) (fun c_2 => ?_)
    refine lv_aload_n hx hb dX1_pointOf_8 rfl (lv_at hl 0 rfl) ?_
    refine lv_iload_n hx hb dX1_pointOf_9 rfl (lv_at hl 1 rfl) ?_
    refine zV_l (As := [.int (iI k)]) (rest := []) ⟨hx, hb, hml, hown, hts⟩ (PM g u v) (PM_blind g u v) (PM_mv hP hK) (rcM hK hP) (c_X1_pointNow l g u v k hI (by omega) (by omega)) (cwV 1 hts gX1_pointOf_X1_pointNow rfl rfl rfl (by decide +kernel) ⟨Nat.le_of_ble_eq_true rfl, Nat.le_of_ble_eq_true rfl⟩) rfl hl.1 rfl (Nat.le_of_ble_eq_true rfl) dX1_pointOf_10 ⟨Nat.zero_le _, Nat.zero_le _⟩ ?_
    refine lv_goto (tgt := 19) hx hb dX1_pointOf_13 (by decide) ?_
    exact zr_l hx hb hr hlocks dX1_pointOf_19 (by unfold poR; first | rw [if_pos (by omega)] | (rw [if_neg (by omega)]; rfl))
  · refine z_if_eq (tgt := 16) hx hb dX1_pointOf_5 (by decide) ⟨by decide, by decide⟩ (fun c_3 => ?_) (fun c_3 => (absurd c_3 (by decide)))
    refine lv_ldc2 (v := jI (-9000000000000000002)) hx hb hown (hts _ m106) dX1_pointOf_16 ?_
    exact zr_l hx hb hr hlocks dX1_pointOf_19 (by unfold poR; first | rw [if_pos (by omega)] | (rw [if_neg (by omega)]; rfl))
set_option maxHeartbeats 4000000 in
set_option maxRecDepth 100000 in
theorem c_X1_speedOf (l : Launch) (g : GG) (u : ST) (v : VT) (k : Int) (hI : Inv u) (hb_k : B32 k) : Met l yX1_speedOf wsX1_speedOf (k2_rm 2 43) (va_Pc [.ref (gM g 0), .int (iI k)] (fun U => PM g u v U U.heap)) (vp_Sl (fun r => r = jI (spR u k))) 0 0 (fun _ => False) := by
  refine Met.ofW (cc := cX1_speedOf) (maxL := 2) (ret := (some .long)) (by decide) rfl ?_
  intro pp ee s mm args below meth cc9 s₁ B hml hv
  obtain ⟨rfl, hPX⟩ := hv
  obtain ⟨hP, hK⟩ := id hPX
  have hx := B.exec
  have hb := B.bytes
  have hr := B.returns
  have hts := atoms_spec (ws := wsX1_speedOf) B.pre
  have hown : s.vm.findClass RX1 = some mm.cls := findClass_of_methodNamed B.named
  have hlocks := B.notSynchronized
  have hin : ∀ w ∈ wsX10, w ∈ wsX1_speedOf := fun w h => List.mem_cons_of_mem _ (List.mem_append_right _ h)
  have m106 : Cond.constantLong RX1 106 (-9000000000000000002) ∈ wsX1_speedOf := by decide +kernel
  have hi_bl := iv_bl hI
  have hi_pg := iv_pg hI
  have hi_se := iv_se hI
  have hi_dr := iv_dr hI
  have hl := lv_entry ([.ref (gM g 0), .int (iI k)]) (n := 2) (Nat.le_of_ble_eq_true rfl)
  rw [lg_entry_eq]
  generalize (lg_sl ([.ref (gM g 0), .int (iI k)]) ++ List.replicate (2 - (lg_sl ([.ref (gM g 0), .int (iI k)])).length) Slot.unset).toArray = ls at hl ⊢
  have hl : lv_has ls 2 [(0, .ref (gM g 0)), (1, .int (iI k))] := hl
  refine lv_aload_n hx hb dX1_speedOf_0 rfl (lv_at hl 0 rfl) ?_
  refine lv_iload_n hx hb dX1_speedOf_1 rfl (lv_at hl 1 rfl) ?_
  refine zV_z (As := [.int (iI k)]) (rest := []) ⟨hx, hb, hml, hown, hts⟩ (PM g u v) (PM_blind g u v) (PM_mv hP hK) (rcM hK hP) (c_X1_isPegNumber l g u v k hI (by omega)) (cwV 1 hts gX1_speedOf_X1_isPegNumber rfl rfl rfl (by decide +kernel) ⟨Nat.le_of_ble_eq_true rfl, Nat.le_of_ble_eq_true rfl⟩) rfl hl.1 rfl (Nat.le_of_ble_eq_true rfl) dX1_speedOf_2 ⟨Nat.zero_le _, Nat.zero_le _⟩ (fun c_1 => ?_) (fun c_1 => ?_)
  · refine z_if_eq (tgt := 16) hx hb dX1_speedOf_5 (by decide) ⟨by decide, by decide⟩ (fun c_2 => (absurd c_2 (by decide))) (fun c_2 => ?_)
    refine lv_aload_n hx hb dX1_speedOf_8 rfl (lv_at hl 0 rfl) ?_
    refine lv_iload_n hx hb dX1_speedOf_9 rfl (lv_at hl 1 rfl) ?_
    refine zV_l (As := [.int (iI k)]) (rest := []) ⟨hx, hb, hml, hown, hts⟩ (PM g u v) (PM_blind g u v) (PM_mv hP hK) (rcM hK hP) (c_X1_speedNow l g u v k hI (by omega) (by omega)) (cwV 1 hts gX1_speedOf_X1_speedNow rfl rfl rfl (by decide +kernel) ⟨Nat.le_of_ble_eq_true rfl, Nat.le_of_ble_eq_true rfl⟩) rfl hl.1 rfl (Nat.le_of_ble_eq_true rfl) dX1_speedOf_10 ⟨Nat.zero_le _, Nat.zero_le _⟩ ?_
    refine lv_goto (tgt := 19) hx hb dX1_speedOf_13 (by decide) ?_
    exact zr_l hx hb hr hlocks dX1_speedOf_19 (by unfold spR; first | rw [if_pos (by omega)] | (rw [if_neg (by omega)]; rfl))
  · refine z_if_eq (tgt := 16) hx hb dX1_speedOf_5 (by decide) ⟨by decide, by decide⟩ (fun c_3 => ?_) (fun c_3 => (absurd c_3 (by decide)))
    refine lv_ldc2 (v := jI (-9000000000000000002)) hx hb hown (hts _ m106) dX1_speedOf_16 ?_
    exact zr_l hx hb hr hlocks dX1_speedOf_19 (by unfold spR; first | rw [if_pos (by omega)] | (rw [if_neg (by omega)]; rfl))
set_option maxHeartbeats 4000000 in
set_option maxRecDepth 100000 in
theorem c_X1_speedTowards (l : Launch) (g : GG) (u : ST) (v : VT) (p9z : Int) (hI : Inv u) (hb_p9 : B32 p9z) : Met l yX1_speedTowards wsX1_speedTowards (k2_rm 2 42) (va_Pc [.ref (gM g 0), .int (iI p9z)] (fun U => PM g u v U U.heap)) (vp_Sl (fun r => r = jI (stR u p9z))) 0 0 (fun _ => False) := by
  refine Met.ofW (cc := cX1_speedTowards) (maxL := 5) (ret := (some .long)) (by decide) rfl ?_
  intro pp ee s mm args below meth cc9 s₁ B hml hv
  obtain ⟨rfl, hPX⟩ := hv
  obtain ⟨hP, hK⟩ := id hPX
  have hx := B.exec
  have hb := B.bytes
  have hr := B.returns
  have hts := atoms_spec (ws := wsX1_speedTowards) B.pre
  have hown : s.vm.findClass RX1 = some mm.cls := findClass_of_methodNamed B.named
  have hlocks := B.notSynchronized
  have hin : ∀ w ∈ wsX10, w ∈ wsX1_speedTowards := fun w h => List.mem_cons_of_mem _ (List.mem_append_right _ h)
  have m13 : Cond.fieldLink RX1 13 "TraverseBoardModel" "point" "[I" ∈ wsX1_speedTowards := by decide +kernel
  have m16 : Cond.fieldLink RX1 16 "TraverseBoardModel" "speed" "[I" ∈ wsX1_speedTowards := by decide +kernel
  have m22 : Cond.fieldLink RX1 22 "TraverseBoardModel" "isLost" "[Z" ∈ wsX1_speedTowards := by decide +kernel
  have m51 : Cond.constantLong RX1 51 (-9000000000000000001) ∈ wsX1_speedTowards := by decide +kernel
  have m91 : Cond.fieldLink RX1 91 "TraverseBoardModel" "pegs" "I" ∈ wsX1_speedTowards := by decide +kernel
  have hi_bl := iv_bl hI
  have hi_pg := iv_pg hI
  have hi_se := iv_se hI
  have hi_dr := iv_dr hI
  have hl := lv_entry ([.ref (gM g 0), .int (iI p9z)]) (n := 5) (Nat.le_of_ble_eq_true rfl)
  rw [lg_entry_eq]
  generalize (lg_sl ([.ref (gM g 0), .int (iI p9z)]) ++ List.replicate (5 - (lg_sl ([.ref (gM g 0), .int (iI p9z)])).length) Slot.unset).toArray = ls at hl ⊢
  have hl : lv_has ls 5 [(0, .ref (gM g 0)), (1, .int (iI p9z))] := hl
  refine lv_iload_n hx hb dX1_speedTowards_0 rfl (lv_at hl 1 rfl) ?_
  refine zS_z (As := [.int (iI p9z)]) (rest := []) ⟨hx, hb, hml, hown, hts⟩ (PT) PT_blind PT_mv  (c_X1_isPoint l g p9z (by omega)) (va_cwS 1 hts gX1_speedTowards_X1_isPoint rfl rfl rfl (by decide +kernel) ⟨Nat.le_of_ble_eq_true rfl, Nat.le_of_ble_eq_true rfl⟩) rfl hl.1 rfl (Nat.le_of_ble_eq_true rfl) dX1_speedTowards_1 ⟨Nat.zero_le _, Nat.zero_le _⟩ (fun c_1 => ?_) (fun c_1 => ?_)
  · refine z_if_ne (tgt := 11) hx hb dX1_speedTowards_4 (by decide) ⟨by decide, by decide⟩ (fun c_2 => ?_) (fun c_2 => (absurd c_2 (by decide)))
    refine z_lconst (z := 0) hx hb dX1_speedTowards_11 rfl ?_
    refine lv_lstore_n (lv' := [(2, .long (jI 0)), (0, .ref (gM g 0)), (1, .int (iI p9z))]) hx hb dX1_speedTowards_12 rfl hl (by decide) rfl (fun ls hl => ?_)
    refine z_iconst hx hb dX1_speedTowards_13 ?_
    refine lv_istore (lv' := [(4, .int (iI 0)), (2, .long (jI 0)), (0, .ref (gM g 0)), (1, .int (iI p9z))]) hx hb dX1_speedTowards_14 hl (by decide) rfl (fun ls hl => ?_)
    refine z_loop2 (nL := 5) (fun x t => (0 ≤ t ∧ t ≤ zpg u) ∧ (x = sz (fun k => if zlo u k = 0 ∧ zpo u k = p9z then zsp u k else 0) 0 t)) (fun x t => (zpg u - t).toNat) (fun x t => [(0, .ref (gM g 0)), (1, .int (iI p9z)), (2, .long (jI x)), (4, .int (iI t))]) (fun x t ls hinv hl ih_16 => ?_) 0 0 ls ⟨(by omega), (by exact (sz_0 (Int.le_refl _)).symm)⟩ (lv_sub hl [2, 3, 1, 0] rfl)
    have hinv : (0 ≤ t ∧ t ≤ zpg u) ∧ (x = sz (fun k => if zlo u k = 0 ∧ zpo u k = p9z then zsp u k else 0) 0 t) := hinv
    obtain ⟨q1z, q3z⟩ := hinv
    have hl : lv_has ls 5 [(0, .ref (gM g 0)), (1, .int (iI p9z)), (2, .long (jI x)), (4, .int (iI t))] := hl
    have hl9 := iv_lo hI t
    refine lv_iload hx hb dX1_speedTowards_16 (lv_at hl 3 rfl) ?_
    refine lv_aload_n hx hb dX1_speedTowards_18 rfl (lv_at hl 0 rfl) ?_
    refine gf_X1_91 (z := zpg u) hx hb hts hin m91 hown hK hP rfl dX1_speedTowards_19 ?_
    refine z_icmp_ge (tgt := 67) hx hb dX1_speedTowards_22 (by decide) (by omega) (by omega) (fun c_3 => ?_) (fun c_3 => ?_)
    · refine lv_lload_n hx hb dX1_speedTowards_67 rfl (lv_at hl 2 rfl) ?_
      exact zr_l hx hb hr hlocks dX1_speedTowards_68 (by rw [stR, if_pos (by omega), q3z, show t = zpg u by omega])
    · refine lv_lload_n hx hb dX1_speedTowards_25 rfl (lv_at hl 2 rfl) ?_
      refine lv_aload_n hx hb dX1_speedTowards_26 rfl (lv_at hl 0 rfl) ?_
      refine gf_X1_22 hx hb hts hin m22 hown hK hP dX1_speedTowards_27 ?_
      refine lv_iload hx hb dX1_speedTowards_30 (lv_at hl 3 rfl) ?_
      refine al_X1_5 hx hb hK hP ⟨by omega, by omega⟩ dX1_speedTowards_32 ?_
      have hv_4 := iv_lo hI t
      refine z_if_ne (tgt := 58) hx hb dX1_speedTowards_33 (by decide) (by omega) (fun c_5 => ?_) (fun c_5 => ?_)
      · refine z_lconst (z := 0) hx hb dX1_speedTowards_58 rfl ?_
        refine z_ladd hx hb dX1_speedTowards_59 ?_
        refine lv_lstore_n (lv' := [(2, .long (jI (x + 0))), (0, .ref (gM g 0)), (1, .int (iI p9z)), (4, .int (iI t))]) hx hb dX1_speedTowards_60 rfl hl (by decide) rfl (fun ls hl => ?_)
        refine z_iinc (k := 3) (lv' := [(4, .int (iI (t + 1))), (2, .long (jI (x + 0))), (0, .ref (gM g 0)), (1, .int (iI p9z))]) hx hb dX1_speedTowards_61 hl rfl (by decide) rfl (fun ls hl => ?_)
        refine lv_goto (tgt := 16) hx hb dX1_speedTowards_64 (by decide) ?_
        exact ih_16 (x + 0) (t + 1) ls ⟨(by omega), (by rw [sz_s q1z.1, ← q3z]; first | rw [if_pos ⟨by omega, by omega⟩] | (rw [if_neg (by omega)]))⟩ (show (zpg u - (t + 1)).toNat < (zpg u - t).toNat by omega) (lv_sub hl [2, 3, 1, 0] rfl)
      · refine lv_aload_n hx hb dX1_speedTowards_36 rfl (lv_at hl 0 rfl) ?_
        refine gf_X1_13 hx hb hts hin m13 hown hK hP dX1_speedTowards_37 ?_
        refine lv_iload hx hb dX1_speedTowards_40 (lv_at hl 3 rfl) ?_
        refine al_X1_2 hx hb hK hP ⟨by omega, by omega⟩ dX1_speedTowards_42 ?_
        have hv_6 := iv_po hI t
        refine lv_iload_n hx hb dX1_speedTowards_43 rfl (lv_at hl 1 rfl) ?_
        refine z_icmp_ne (tgt := 58) hx hb dX1_speedTowards_44 (by decide) (by omega) (by omega) (fun c_7 => ?_) (fun c_7 => ?_)
        · refine z_lconst (z := 0) hx hb dX1_speedTowards_58 rfl ?_
          refine z_ladd hx hb dX1_speedTowards_59 ?_
          refine lv_lstore_n (lv' := [(2, .long (jI (x + 0))), (0, .ref (gM g 0)), (1, .int (iI p9z)), (4, .int (iI t))]) hx hb dX1_speedTowards_60 rfl hl (by decide) rfl (fun ls hl => ?_)
          refine z_iinc (k := 3) (lv' := [(4, .int (iI (t + 1))), (2, .long (jI (x + 0))), (0, .ref (gM g 0)), (1, .int (iI p9z))]) hx hb dX1_speedTowards_61 hl rfl (by decide) rfl (fun ls hl => ?_)
          refine lv_goto (tgt := 16) hx hb dX1_speedTowards_64 (by decide) ?_
          exact ih_16 (x + 0) (t + 1) ls ⟨(by omega), (by rw [sz_s q1z.1, ← q3z]; first | rw [if_pos ⟨by omega, by omega⟩] | (rw [if_neg (by omega)]))⟩ (show (zpg u - (t + 1)).toNat < (zpg u - t).toNat by omega) (lv_sub hl [2, 3, 1, 0] rfl)
        · refine lv_aload_n hx hb dX1_speedTowards_47 rfl (lv_at hl 0 rfl) ?_
          refine gf_X1_16 hx hb hts hin m16 hown hK hP dX1_speedTowards_48 ?_
          refine lv_iload hx hb dX1_speedTowards_51 (lv_at hl 3 rfl) ?_
          refine al_X1_3 hx hb hK hP ⟨by omega, by omega⟩ dX1_speedTowards_53 ?_
          have hv_8 := iv_sp hI t
          refine z_i2l hx hb (by omega) dX1_speedTowards_54 ?_
          refine lv_goto (tgt := 59) hx hb dX1_speedTowards_55 (by decide) ?_
          refine z_ladd hx hb dX1_speedTowards_59 ?_
          refine lv_lstore_n (lv' := [(2, .long (jI (x + (zsp u t)))), (0, .ref (gM g 0)), (1, .int (iI p9z)), (4, .int (iI t))]) hx hb dX1_speedTowards_60 rfl hl (by decide) rfl (fun ls hl => ?_)
          refine z_iinc (k := 3) (lv' := [(4, .int (iI (t + 1))), (2, .long (jI (x + (zsp u t)))), (0, .ref (gM g 0)), (1, .int (iI p9z))]) hx hb dX1_speedTowards_61 hl rfl (by decide) rfl (fun ls hl => ?_)
          refine lv_goto (tgt := 16) hx hb dX1_speedTowards_64 (by decide) ?_
          exact ih_16 (x + (zsp u t)) (t + 1) ls ⟨(by omega), (by rw [sz_s q1z.1, ← q3z]; first | rw [if_pos ⟨by omega, by omega⟩] | (rw [if_neg (by omega)]))⟩ (show (zpg u - (t + 1)).toNat < (zpg u - t).toNat by omega) (lv_sub hl [2, 3, 1, 0] rfl)
  · refine z_if_ne (tgt := 11) hx hb dX1_speedTowards_4 (by decide) ⟨by decide, by decide⟩ (fun c_9 => (absurd c_9 (by decide))) (fun c_9 => ?_)
    refine lv_ldc2 (v := jI (-9000000000000000001)) hx hb hown (hts _ m51) dX1_speedTowards_7 ?_
    exact zr_l hx hb hr hlocks dX1_speedTowards_10 (by rw [stR, if_neg (by omega)]; rfl)
set_option maxHeartbeats 4000000 in
set_option maxRecDepth 100000 in
theorem c_X1_fixMany (l : Launch) (g : GG) (u : ST) (v : VT) (hI : Inv u) : Met l yX1_fixMany wsX1_fixMany (k2_rm 0 0) (va_Pc [.ref (gM g 0)] (fun U => PM g u v U U.heap)) (vp_Si (fun r => r = iI (sz (zfx u) 0 (zpg u + 1)))) 0 0 (fun _ => False) := by
  refine Met.ofW (cc := cX1_fixMany) (maxL := 3) (ret := (some .int)) (by decide) rfl ?_
  intro pp ee s mm args below meth cc9 s₁ B hml hv
  obtain ⟨rfl, hPX⟩ := hv
  obtain ⟨hP, hK⟩ := id hPX
  have hx := B.exec
  have hb := B.bytes
  have hr := B.returns
  have hts := atoms_spec (ws := wsX1_fixMany) B.pre
  have hown : s.vm.findClass RX1 = some mm.cls := findClass_of_methodNamed B.named
  have hlocks := B.notSynchronized
  have hin : ∀ w ∈ wsX10, w ∈ wsX1_fixMany := fun w h => List.mem_cons_of_mem _ (List.mem_append_right _ h)
  have m26 : Cond.fieldLink RX1 26 "TraverseBoardModel" "hasFix" "[Z" ∈ wsX1_fixMany := by decide +kernel
  have m91 : Cond.fieldLink RX1 91 "TraverseBoardModel" "pegs" "I" ∈ wsX1_fixMany := by decide +kernel
  have hi_bl := iv_bl hI
  have hi_pg := iv_pg hI
  have hi_se := iv_se hI
  have hi_dr := iv_dr hI
  have hl := lv_entry ([.ref (gM g 0)]) (n := 3) (Nat.le_of_ble_eq_true rfl)
  rw [lg_entry_eq]
  generalize (lg_sl ([.ref (gM g 0)]) ++ List.replicate (3 - (lg_sl ([.ref (gM g 0)])).length) Slot.unset).toArray = ls at hl ⊢
  have hl : lv_has ls 3 [(0, .ref (gM g 0))] := hl
  refine z_iconst hx hb dX1_fixMany_0 ?_
  refine lv_istore_n (lv' := [(1, .int (iI 0)), (0, .ref (gM g 0))]) hx hb dX1_fixMany_1 rfl hl (by decide) rfl (fun ls hl => ?_)
  refine z_iconst hx hb dX1_fixMany_2 ?_
  refine lv_istore_n (lv' := [(2, .int (iI 0)), (1, .int (iI 0)), (0, .ref (gM g 0))]) hx hb dX1_fixMany_3 rfl hl (by decide) rfl (fun ls hl => ?_)
  refine z_loop2 (nL := 3) (fun x t => (0 ≤ t ∧ t ≤ zpg u + 1) ∧ (x = sz (zfx u) 0 t)) (fun x t => (zpg u + 1 - t).toNat) (fun x t => [(0, .ref (gM g 0)), (1, .int (iI x)), (2, .int (iI t))]) (fun x t ls hinv hl ih_4 => ?_) 0 0 ls ⟨(by omega), (by exact (sz_0 (Int.le_refl _)).symm)⟩ (lv_sub hl [2, 1, 0] rfl)
  have hinv : (0 ≤ t ∧ t ≤ zpg u + 1) ∧ (x = sz (zfx u) 0 t) := hinv
  obtain ⟨q1z, q3z⟩ := hinv
  have hl : lv_has ls 3 [(0, .ref (gM g 0)), (1, .int (iI x)), (2, .int (iI t))] := hl
  have hl9 := iv_fx hI t
  refine lv_iload_n hx hb dX1_fixMany_4 rfl (lv_at hl 2 rfl) ?_
  refine lv_aload_n hx hb dX1_fixMany_5 rfl (lv_at hl 0 rfl) ?_
  refine gf_X1_91 (z := zpg u) hx hb hts hin m91 hown hK hP rfl dX1_fixMany_6 ?_
  refine z_icmp_gt (tgt := 35) hx hb dX1_fixMany_9 (by decide) (by omega) (by omega) (fun c_1 => ?_) (fun c_1 => ?_)
  · refine lv_iload_n hx hb dX1_fixMany_35 rfl (lv_at hl 1 rfl) ?_
    exact zr_i hx hb hr hlocks dX1_fixMany_36 (by rw [q3z, show t = zpg u + 1 by omega])
  · refine lv_iload_n hx hb dX1_fixMany_12 rfl (lv_at hl 1 rfl) ?_
    refine lv_aload_n hx hb dX1_fixMany_13 rfl (lv_at hl 0 rfl) ?_
    refine gf_X1_26 hx hb hts hin m26 hown hK hP dX1_fixMany_14 ?_
    refine lv_iload_n hx hb dX1_fixMany_17 rfl (lv_at hl 2 rfl) ?_
    refine al_X1_6 hx hb hK hP ⟨by omega, by omega⟩ dX1_fixMany_18 ?_
    have hv_2 := iv_fx hI t
    refine z_if_eq (tgt := 26) hx hb dX1_fixMany_19 (by decide) (by omega) (fun c_3 => ?_) (fun c_3 => ?_)
    · refine z_iconst hx hb dX1_fixMany_26 ?_
      refine z_iadd hx hb dX1_fixMany_27 ?_
      refine lv_istore_n (lv' := [(1, .int (iI (x + 0))), (0, .ref (gM g 0)), (2, .int (iI t))]) hx hb dX1_fixMany_28 rfl hl (by decide) rfl (fun ls hl => ?_)
      refine z_iinc (k := 2) (lv' := [(2, .int (iI (t + 1))), (1, .int (iI (x + 0))), (0, .ref (gM g 0))]) hx hb dX1_fixMany_29 hl rfl (by decide) rfl (fun ls hl => ?_)
      refine lv_goto (tgt := 4) hx hb dX1_fixMany_32 (by decide) ?_
      exact ih_4 (x + 0) (t + 1) ls ⟨(by omega), (by rw [sz_s q1z.1]; omega)⟩ (show (zpg u + 1 - (t + 1)).toNat < (zpg u + 1 - t).toNat by omega) (lv_sub hl [2, 1, 0] rfl)
    · refine z_iconst hx hb dX1_fixMany_22 ?_
      refine lv_goto (tgt := 27) hx hb dX1_fixMany_23 (by decide) ?_
      refine z_iadd hx hb dX1_fixMany_27 ?_
      refine lv_istore_n (lv' := [(1, .int (iI (x + 1))), (0, .ref (gM g 0)), (2, .int (iI t))]) hx hb dX1_fixMany_28 rfl hl (by decide) rfl (fun ls hl => ?_)
      refine z_iinc (k := 2) (lv' := [(2, .int (iI (t + 1))), (1, .int (iI (x + 1))), (0, .ref (gM g 0))]) hx hb dX1_fixMany_29 hl rfl (by decide) rfl (fun ls hl => ?_)
      refine lv_goto (tgt := 4) hx hb dX1_fixMany_32 (by decide) ?_
      exact ih_4 (x + 1) (t + 1) ls ⟨(by omega), (by rw [sz_s q1z.1]; omega)⟩ (show (zpg u + 1 - (t + 1)).toNat < (zpg u + 1 - t).toNat by omega) (lv_sub hl [2, 1, 0] rfl)
