/-! the class, by program (genx.py): X0_reckoned X0_reckonedNorth X0_reckonedEast X0_error X0_corrected X0_correctedNorth X0_correctedEast X0_difference -/
set_option maxHeartbeats 4000000 in
set_option maxRecDepth 100000 in
theorem c_X0_reckoned (l : Launch) (g : GG) (u : ST) (k : Int) (ax : Int) (hI : Inv u) (k0z : 0 ≤ k) (k1z : k ≤ zpg u) (hax : ax = 8 ∨ ax = 0) : Met l yX0_reckoned wsX0_reckoned (k2_rm 3 70) (va_Pc [.ref (gX g 0), .int (iI k), .int (iI ax)] (fun U => PX g u U U.heap)) (vp_Sl (fun r => r = jI (rk u ax k))) 0 0 (fun _ => False) := by
  refine Met.ofW (cc := cX0_reckoned) (maxL := 4) (ret := (some .long)) (by decide) rfl ?_
  intro pp ee s mm args below meth cc9 s₁ B hml hv
  obtain ⟨rfl, hPX⟩ := hv
  obtain ⟨hP, hK, hZS⟩ := id hPX
  have hx := B.exec
  have hb := B.bytes
  have hr := B.returns
  have hts := atoms_spec (ws := wsX0_reckoned) B.pre
  have hown : s.vm.findClass RX0 = some mm.cls := findClass_of_methodNamed B.named
  have hlocks := B.notSynchronized
  have hin : ∀ w ∈ wsX00, w ∈ wsX0_reckoned := fun w h => List.mem_cons_of_mem _ (List.mem_append_right _ h)
  have hS0 : va_S nA s.heap s.heap [] := va_S.rf
  have hi_bl := iv_bl hI
  have hi_pg := iv_pg hI
  have hi_se := iv_se hI
  have hi_dr := iv_dr hI
  have hla := la_rng u k0z
  have hf1 := fxc_rng hI ax (la u k)
  have hl := lv_entry ([.ref (gX g 0), .int (iI k), .int (iI ax)]) (n := 4) (Nat.le_of_ble_eq_true rfl)
  rw [lg_entry_eq]
  generalize (lg_sl ([.ref (gX g 0), .int (iI k), .int (iI ax)]) ++ List.replicate (4 - (lg_sl ([.ref (gX g 0), .int (iI k), .int (iI ax)])).length) Slot.unset).toArray = ls at hl ⊢
  have hl : lv_has ls 4 [(0, .ref (gX g 0)), (1, .int (iI k)), (2, .int (iI ax))] := hl
  refine lv_aload_n hx hb dX0_reckoned_0 rfl (lv_at hl 0 rfl) ?_
  refine lv_iload_n hx hb dX0_reckoned_1 rfl (lv_at hl 1 rfl) ?_
  refine zV_i (As := [.int (iI k)]) (rest := []) ⟨hx, hb, hml, hown, hts⟩ (PY g u) (PY_blind g u) (PY_mv hP hK) (rcX hK hP) (c_X0_lastFix l g u k hI (by omega) (by omega)) (cwV 1 hts gX0_reckoned_X0_lastFix rfl rfl rfl (by decide +kernel) ⟨Nat.le_of_ble_eq_true rfl, Nat.le_of_ble_eq_true rfl⟩) rfl hl.1 rfl (Nat.le_of_ble_eq_true rfl) dX0_reckoned_2 ⟨Nat.zero_le _, Nat.zero_le _⟩ ?_
  refine lv_istore_n (lv' := [(3, .int (iI (la u k))), (0, .ref (gX g 0)), (1, .int (iI k)), (2, .int (iI ax))]) hx hb dX0_reckoned_5 rfl hl (by decide) rfl (fun ls hl => ?_)
  refine lv_aload_n hx hb dX0_reckoned_6 rfl (lv_at hl 1 rfl) ?_
  refine lv_iload_n hx hb dX0_reckoned_7 rfl (lv_at hl 0 rfl) ?_
  refine lv_iload_n hx hb dX0_reckoned_8 rfl (lv_at hl 3 rfl) ?_
  refine zV_i (As := [.int (iI (la u k)), .int (iI ax)]) (rest := []) ⟨hx, hb, hml, hown, hts⟩ (PY g u) (PY_blind g u) (PY_mv hP hK) (rcX hK hP) (c_X0_fix l g u (la u k) ax hI (by omega) (by omega) (by omega)) (cwV 2 hts gX0_reckoned_X0_fix rfl rfl rfl (by decide +kernel) ⟨Nat.le_of_ble_eq_true rfl, Nat.le_of_ble_eq_true rfl⟩) rfl hl.1 rfl (Nat.le_of_ble_eq_true rfl) dX0_reckoned_9 ⟨Nat.zero_le _, Nat.zero_le _⟩ ?_
  refine z_i2l hx hb (by omega) dX0_reckoned_12 ?_
  refine lv_aload_n hx hb dX0_reckoned_13 rfl (lv_at hl 1 rfl) ?_
  refine lv_iload_n hx hb dX0_reckoned_14 rfl (lv_at hl 0 rfl) ?_
  refine lv_iload_n hx hb dX0_reckoned_15 rfl (lv_at hl 2 rfl) ?_
  refine lv_iload_n hx hb dX0_reckoned_16 rfl (lv_at hl 3 rfl) ?_
  refine zV_l (As := [.int (iI (la u k)), .int (iI k), .int (iI ax)]) (rest := [.long (jI (fxc u ax (la u k)))]) ⟨hx, hb, hml, hown, hts⟩ (PX g u) (PX_blind g u) (PX_mv hPX) (rcX hK hP) (c_X0_legs l g u (la u k) k ax hI (by omega) (by omega) (by omega) (by omega)) (cwV 3 hts gX0_reckoned_X0_legs rfl rfl rfl (by decide +kernel) ⟨Nat.le_of_ble_eq_true rfl, Nat.le_of_ble_eq_true rfl⟩) rfl hl.1 rfl (Nat.le_of_ble_eq_true rfl) dX0_reckoned_17 ⟨Nat.zero_le _, Nat.zero_le _⟩ ?_
  refine z_ladd hx hb dX0_reckoned_20 ?_
  exact zr_l hx hb hr hlocks dX0_reckoned_21 (by first | rfl | omega)
set_option maxHeartbeats 4000000 in
set_option maxRecDepth 100000 in
theorem c_X0_reckonedNorth (l : Launch) (g : GG) (u : ST) (k : Int) (hI : Inv u) (hb_k : B32 k) : Met l yX0_reckonedNorth wsX0_reckonedNorth (k2_rm 4 93) (va_Pc [.ref (gX g 0), .int (iI k)] (fun U => PX g u U U.heap)) (vp_Sl (fun r => r = jI (rkR u 8 k))) 0 0 (fun _ => False) := by
  refine Met.ofW (cc := cX0_reckonedNorth) (maxL := 2) (ret := (some .long)) (by decide) rfl ?_
  intro pp ee s mm args below meth cc9 s₁ B hml hv
  obtain ⟨rfl, hPX⟩ := hv
  obtain ⟨hP, hK, hZS⟩ := id hPX
  have hx := B.exec
  have hb := B.bytes
  have hr := B.returns
  have hts := atoms_spec (ws := wsX0_reckonedNorth) B.pre
  have hown : s.vm.findClass RX0 = some mm.cls := findClass_of_methodNamed B.named
  have hlocks := B.notSynchronized
  have hin : ∀ w ∈ wsX00, w ∈ wsX0_reckonedNorth := fun w h => List.mem_cons_of_mem _ (List.mem_append_right _ h)
  have m124 : Cond.constantLong RX0 124 (-9000000000000000003) ∈ wsX0_reckonedNorth := by decide +kernel
  have hS0 : va_S nA s.heap s.heap [] := va_S.rf
  have hi_bl := iv_bl hI
  have hi_pg := iv_pg hI
  have hi_se := iv_se hI
  have hi_dr := iv_dr hI
  have hl := lv_entry ([.ref (gX g 0), .int (iI k)]) (n := 2) (Nat.le_of_ble_eq_true rfl)
  rw [lg_entry_eq]
  generalize (lg_sl ([.ref (gX g 0), .int (iI k)]) ++ List.replicate (2 - (lg_sl ([.ref (gX g 0), .int (iI k)])).length) Slot.unset).toArray = ls at hl ⊢
  have hl : lv_has ls 2 [(0, .ref (gX g 0)), (1, .int (iI k))] := hl
  refine lv_aload_n hx hb dX0_reckonedNorth_0 rfl (lv_at hl 0 rfl) ?_
  refine lv_iload_n hx hb dX0_reckonedNorth_1 rfl (lv_at hl 1 rfl) ?_
  refine zV_z (As := [.int (iI k)]) (rest := []) ⟨hx, hb, hml, hown, hts⟩ (PY g u) (PY_blind g u) (PY_mv hP hK) (rcX hK hP) (c_X0_momentExists l g u k hI (by omega)) (cwV 1 hts gX0_reckonedNorth_X0_momentExists rfl rfl rfl (by decide +kernel) ⟨Nat.le_of_ble_eq_true rfl, Nat.le_of_ble_eq_true rfl⟩) rfl hl.1 rfl (Nat.le_of_ble_eq_true rfl) dX0_reckonedNorth_2 ⟨Nat.zero_le _, Nat.zero_le _⟩ (fun c_1 => ?_) (fun c_1 => ?_)
  · refine z_if_eq (tgt := 18) hx hb dX0_reckonedNorth_5 (by decide) ⟨by decide, by decide⟩ (fun c_2 => (absurd c_2 (by decide))) (fun c_2 => ?_)
    refine lv_aload_n hx hb dX0_reckonedNorth_8 rfl (lv_at hl 0 rfl) ?_
    refine lv_iload_n hx hb dX0_reckonedNorth_9 rfl (lv_at hl 1 rfl) ?_
    refine z_bipush hx hb dX0_reckonedNorth_10 (by decide +kernel) ?_
    refine zV_l (As := [.int (iI k), .int (iI 8)]) (rest := []) ⟨hx, hb, hml, hown, hts⟩ (PX g u) (PX_blind g u) (PX_mv hPX) (rcX hK hP) (c_X0_reckoned l g u k 8 hI (by omega) (by omega) (by omega)) (cwV 2 hts gX0_reckonedNorth_X0_reckoned rfl rfl rfl (by decide +kernel) ⟨Nat.le_of_ble_eq_true rfl, Nat.le_of_ble_eq_true rfl⟩) rfl hl.1 rfl (Nat.le_of_ble_eq_true rfl) dX0_reckonedNorth_12 ⟨Nat.zero_le _, Nat.zero_le _⟩ ?_
    refine lv_goto (tgt := 21) hx hb dX0_reckonedNorth_15 (by decide) ?_
    exact zr_l hx hb hr hlocks dX0_reckonedNorth_21 (by unfold rkR eNM; (repeat' split) <;> first | rfl | omega)
  · refine z_if_eq (tgt := 18) hx hb dX0_reckonedNorth_5 (by decide) ⟨by decide, by decide⟩ (fun c_3 => ?_) (fun c_3 => (absurd c_3 (by decide)))
    refine lv_ldc2 (v := jI (-9000000000000000003)) hx hb hown (hts _ m124) dX0_reckonedNorth_18 ?_
    exact zr_l hx hb hr hlocks dX0_reckonedNorth_21 (by unfold rkR eNM; (repeat' split) <;> first | rfl | omega)
set_option maxHeartbeats 4000000 in
set_option maxRecDepth 100000 in
theorem c_X0_reckonedEast (l : Launch) (g : GG) (u : ST) (k : Int) (hI : Inv u) (hb_k : B32 k) : Met l yX0_reckonedEast wsX0_reckonedEast (k2_rm 4 93) (va_Pc [.ref (gX g 0), .int (iI k)] (fun U => PX g u U U.heap)) (vp_Sl (fun r => r = jI (rkR u 0 k))) 0 0 (fun _ => False) := by
  refine Met.ofW (cc := cX0_reckonedEast) (maxL := 2) (ret := (some .long)) (by decide) rfl ?_
  intro pp ee s mm args below meth cc9 s₁ B hml hv
  obtain ⟨rfl, hPX⟩ := hv
  obtain ⟨hP, hK, hZS⟩ := id hPX
  have hx := B.exec
  have hb := B.bytes
  have hr := B.returns
  have hts := atoms_spec (ws := wsX0_reckonedEast) B.pre
  have hown : s.vm.findClass RX0 = some mm.cls := findClass_of_methodNamed B.named
  have hlocks := B.notSynchronized
  have hin : ∀ w ∈ wsX00, w ∈ wsX0_reckonedEast := fun w h => List.mem_cons_of_mem _ (List.mem_append_right _ h)
  have m124 : Cond.constantLong RX0 124 (-9000000000000000003) ∈ wsX0_reckonedEast := by decide +kernel
  have hS0 : va_S nA s.heap s.heap [] := va_S.rf
  have hi_bl := iv_bl hI
  have hi_pg := iv_pg hI
  have hi_se := iv_se hI
  have hi_dr := iv_dr hI
  have hl := lv_entry ([.ref (gX g 0), .int (iI k)]) (n := 2) (Nat.le_of_ble_eq_true rfl)
  rw [lg_entry_eq]
  generalize (lg_sl ([.ref (gX g 0), .int (iI k)]) ++ List.replicate (2 - (lg_sl ([.ref (gX g 0), .int (iI k)])).length) Slot.unset).toArray = ls at hl ⊢
  have hl : lv_has ls 2 [(0, .ref (gX g 0)), (1, .int (iI k))] := hl
  refine lv_aload_n hx hb dX0_reckonedEast_0 rfl (lv_at hl 0 rfl) ?_
  refine lv_iload_n hx hb dX0_reckonedEast_1 rfl (lv_at hl 1 rfl) ?_
  refine zV_z (As := [.int (iI k)]) (rest := []) ⟨hx, hb, hml, hown, hts⟩ (PY g u) (PY_blind g u) (PY_mv hP hK) (rcX hK hP) (c_X0_momentExists l g u k hI (by omega)) (cwV 1 hts gX0_reckonedEast_X0_momentExists rfl rfl rfl (by decide +kernel) ⟨Nat.le_of_ble_eq_true rfl, Nat.le_of_ble_eq_true rfl⟩) rfl hl.1 rfl (Nat.le_of_ble_eq_true rfl) dX0_reckonedEast_2 ⟨Nat.zero_le _, Nat.zero_le _⟩ (fun c_1 => ?_) (fun c_1 => ?_)
  · refine z_if_eq (tgt := 17) hx hb dX0_reckonedEast_5 (by decide) ⟨by decide, by decide⟩ (fun c_2 => (absurd c_2 (by decide))) (fun c_2 => ?_)
    refine lv_aload_n hx hb dX0_reckonedEast_8 rfl (lv_at hl 0 rfl) ?_
    refine lv_iload_n hx hb dX0_reckonedEast_9 rfl (lv_at hl 1 rfl) ?_
    refine z_iconst hx hb dX0_reckonedEast_10 ?_
    refine zV_l (As := [.int (iI k), .int (iI 0)]) (rest := []) ⟨hx, hb, hml, hown, hts⟩ (PX g u) (PX_blind g u) (PX_mv hPX) (rcX hK hP) (c_X0_reckoned l g u k 0 hI (by omega) (by omega) (by omega)) (cwV 2 hts gX0_reckonedEast_X0_reckoned rfl rfl rfl (by decide +kernel) ⟨Nat.le_of_ble_eq_true rfl, Nat.le_of_ble_eq_true rfl⟩) rfl hl.1 rfl (Nat.le_of_ble_eq_true rfl) dX0_reckonedEast_11 ⟨Nat.zero_le _, Nat.zero_le _⟩ ?_
    refine lv_goto (tgt := 20) hx hb dX0_reckonedEast_14 (by decide) ?_
    exact zr_l hx hb hr hlocks dX0_reckonedEast_20 (by unfold rkR eNM; (repeat' split) <;> first | rfl | omega)
  · refine z_if_eq (tgt := 17) hx hb dX0_reckonedEast_5 (by decide) ⟨by decide, by decide⟩ (fun c_3 => ?_) (fun c_3 => (absurd c_3 (by decide)))
    refine lv_ldc2 (v := jI (-9000000000000000003)) hx hb hown (hts _ m124) dX0_reckonedEast_17 ?_
    exact zr_l hx hb hr hlocks dX0_reckonedEast_20 (by unfold rkR eNM; (repeat' split) <;> first | rfl | omega)
set_option maxHeartbeats 4000000 in
set_option maxRecDepth 100000 in
theorem c_X0_error (l : Launch) (g : GG) (u : ST) (a : Int) (b : Int) (ax : Int) (hI : Inv u) (k0z : 0 ≤ a) (k1z : a ≤ b) (k2z : b ≤ zpg u) (hax : ax = 8 ∨ ax = 0) : Met l yX0_error wsX0_error (k2_rm 3 70) (va_Pc [.ref (gX g 0), .int (iI a), .int (iI b), .int (iI ax)] (fun U => PX g u U U.heap)) (vp_Sl (fun r => r = jI (er u ax a b))) 0 0 (fun _ => False) := by
  refine Met.ofW (cc := cX0_error) (maxL := 4) (ret := (some .long)) (by decide) rfl ?_
  intro pp ee s mm args below meth cc9 s₁ B hml hv
  obtain ⟨rfl, hPX⟩ := hv
  obtain ⟨hP, hK, hZS⟩ := id hPX
  have hx := B.exec
  have hb := B.bytes
  have hr := B.returns
  have hts := atoms_spec (ws := wsX0_error) B.pre
  have hown : s.vm.findClass RX0 = some mm.cls := findClass_of_methodNamed B.named
  have hlocks := B.notSynchronized
  have hin : ∀ w ∈ wsX00, w ∈ wsX0_error := fun w h => List.mem_cons_of_mem _ (List.mem_append_right _ h)
  have hS0 : va_S nA s.heap s.heap [] := va_S.rf
  have hi_bl := iv_bl hI
  have hi_pg := iv_pg hI
  have hi_se := iv_se hI
  have hi_dr := iv_dr hI
  have hf1 := fxc_rng hI ax a
  have hf2 := fxc_rng hI ax b
  have hl := lv_entry ([.ref (gX g 0), .int (iI a), .int (iI b), .int (iI ax)]) (n := 4) (Nat.le_of_ble_eq_true rfl)
  rw [lg_entry_eq]
  generalize (lg_sl ([.ref (gX g 0), .int (iI a), .int (iI b), .int (iI ax)]) ++ List.replicate (4 - (lg_sl ([.ref (gX g 0), .int (iI a), .int (iI b), .int (iI ax)])).length) Slot.unset).toArray = ls at hl ⊢
  have hl : lv_has ls 4 [(0, .ref (gX g 0)), (1, .int (iI a)), (2, .int (iI b)), (3, .int (iI ax))] := hl
  refine lv_aload_n hx hb dX0_error_0 rfl (lv_at hl 0 rfl) ?_
  refine lv_iload_n hx hb dX0_error_1 rfl (lv_at hl 2 rfl) ?_
  refine lv_iload_n hx hb dX0_error_2 rfl (lv_at hl 3 rfl) ?_
  refine zV_i (As := [.int (iI b), .int (iI ax)]) (rest := []) ⟨hx, hb, hml, hown, hts⟩ (PY g u) (PY_blind g u) (PY_mv hP hK) (rcX hK hP) (c_X0_fix l g u b ax hI (by omega) (by omega) (by omega)) (cwV 2 hts gX0_error_X0_fix rfl rfl rfl (by decide +kernel) ⟨Nat.le_of_ble_eq_true rfl, Nat.le_of_ble_eq_true rfl⟩) rfl hl.1 rfl (Nat.le_of_ble_eq_true rfl) dX0_error_3 ⟨Nat.zero_le _, Nat.zero_le _⟩ ?_
  refine lv_aload_n hx hb dX0_error_6 rfl (lv_at hl 0 rfl) ?_
  refine lv_iload_n hx hb dX0_error_7 rfl (lv_at hl 1 rfl) ?_
  refine lv_iload_n hx hb dX0_error_8 rfl (lv_at hl 3 rfl) ?_
  refine zV_i (As := [.int (iI a), .int (iI ax)]) (rest := [.int (iI (fxc u ax b))]) ⟨hx, hb, hml, hown, hts⟩ (PY g u) (PY_blind g u) (PY_mv hP hK) (rcX hK hP) (c_X0_fix l g u a ax hI (by omega) (by omega) (by omega)) (cwV 2 hts gX0_error_X0_fix rfl rfl rfl (by decide +kernel) ⟨Nat.le_of_ble_eq_true rfl, Nat.le_of_ble_eq_true rfl⟩) rfl hl.1 rfl (Nat.le_of_ble_eq_true rfl) dX0_error_9 ⟨Nat.zero_le _, Nat.zero_le _⟩ ?_
  refine z_isub hx hb dX0_error_12 ?_
  refine z_i2l hx hb (by omega) dX0_error_13 ?_
  refine lv_aload_n hx hb dX0_error_14 rfl (lv_at hl 0 rfl) ?_
  refine lv_iload_n hx hb dX0_error_15 rfl (lv_at hl 1 rfl) ?_
  refine lv_iload_n hx hb dX0_error_16 rfl (lv_at hl 2 rfl) ?_
  refine lv_iload_n hx hb dX0_error_17 rfl (lv_at hl 3 rfl) ?_
  refine zV_l (As := [.int (iI a), .int (iI b), .int (iI ax)]) (rest := [.long (jI ((fxc u ax b) - (fxc u ax a)))]) ⟨hx, hb, hml, hown, hts⟩ (PX g u) (PX_blind g u) (PX_mv hPX) (rcX hK hP) (c_X0_legs l g u a b ax hI (by omega) (by omega) (by omega) (by omega)) (cwV 3 hts gX0_error_X0_legs rfl rfl rfl (by decide +kernel) ⟨Nat.le_of_ble_eq_true rfl, Nat.le_of_ble_eq_true rfl⟩) rfl hl.1 rfl (Nat.le_of_ble_eq_true rfl) dX0_error_18 ⟨Nat.zero_le _, Nat.zero_le _⟩ ?_
  refine z_lsub hx hb dX0_error_21 ?_
  exact zr_l hx hb hr hlocks dX0_error_22 (by first | rfl | omega)
set_option maxHeartbeats 4000000 in
set_option maxRecDepth 100000 in
theorem c_X0_corrected (l : Launch) (g : GG) (u : ST) (k : Int) (ax : Int) (hI : Inv u) (k0z : 0 ≤ k) (k1z : k ≤ zpg u) (hax : ax = 8 ∨ ax = 0) : Met l yX0_corrected wsX0_corrected (k2_rm 4 93) (va_Pc [.ref (gX g 0), .int (iI k), .int (iI ax)] (fun U => PX g u U U.heap)) (vp_Sl (fun r => r = jI (co u ax k))) 0 0 (fun _ => False) := by
  refine Met.ofW (cc := cX0_corrected) (maxL := 5) (ret := (some .long)) (by decide) rfl ?_
  intro pp ee s mm args below meth cc9 s₁ B hml hv
  obtain ⟨rfl, hPX⟩ := hv
  obtain ⟨hP, hK, hZS⟩ := id hPX
  have hx := B.exec
  have hb := B.bytes
  have hr := B.returns
  have hts := atoms_spec (ws := wsX0_corrected) B.pre
  have hown : s.vm.findClass RX0 = some mm.cls := findClass_of_methodNamed B.named
  have hlocks := B.notSynchronized
  have hin : ∀ w ∈ wsX00, w ∈ wsX0_corrected := fun w h => List.mem_cons_of_mem _ (List.mem_append_right _ h)
  have hS0 : va_S nA s.heap s.heap [] := va_S.rf
  have hi_bl := iv_bl hI
  have hi_pg := iv_pg hI
  have hi_se := iv_se hI
  have hi_dr := iv_dr hI
  have hla := la_rng u k0z
  have hnf := nf_rng u k
  have hl := lv_entry ([.ref (gX g 0), .int (iI k), .int (iI ax)]) (n := 5) (Nat.le_of_ble_eq_true rfl)
  rw [lg_entry_eq]
  generalize (lg_sl ([.ref (gX g 0), .int (iI k), .int (iI ax)]) ++ List.replicate (5 - (lg_sl ([.ref (gX g 0), .int (iI k), .int (iI ax)])).length) Slot.unset).toArray = ls at hl ⊢
  have hl : lv_has ls 5 [(0, .ref (gX g 0)), (1, .int (iI k)), (2, .int (iI ax))] := hl
  refine lv_aload_n hx hb dX0_corrected_0 rfl (lv_at hl 0 rfl) ?_
  refine lv_iload_n hx hb dX0_corrected_1 rfl (lv_at hl 1 rfl) ?_
  refine zV_i (As := [.int (iI k)]) (rest := []) ⟨hx, hb, hml, hown, hts⟩ (PY g u) (PY_blind g u) (PY_mv hP hK) (rcX hK hP) (c_X0_lastFix l g u k hI (by omega) (by omega)) (cwV 1 hts gX0_corrected_X0_lastFix rfl rfl rfl (by decide +kernel) ⟨Nat.le_of_ble_eq_true rfl, Nat.le_of_ble_eq_true rfl⟩) rfl hl.1 rfl (Nat.le_of_ble_eq_true rfl) dX0_corrected_2 ⟨Nat.zero_le _, Nat.zero_le _⟩ ?_
  refine lv_istore_n (lv' := [(3, .int (iI (la u k))), (0, .ref (gX g 0)), (1, .int (iI k)), (2, .int (iI ax))]) hx hb dX0_corrected_5 rfl hl (by decide) rfl (fun ls hl => ?_)
  refine lv_aload_n hx hb dX0_corrected_6 rfl (lv_at hl 1 rfl) ?_
  refine lv_iload_n hx hb dX0_corrected_7 rfl (lv_at hl 2 rfl) ?_
  refine zV_i (As := [.int (iI k)]) (rest := []) ⟨hx, hb, hml, hown, hts⟩ (PY g u) (PY_blind g u) (PY_mv hP hK) (rcX hK hP) (c_X0_firstFixAfter l g u k hI (by omega) (by omega)) (cwV 1 hts gX0_corrected_X0_firstFixAfter rfl rfl rfl (by decide +kernel) ⟨Nat.le_of_ble_eq_true rfl, Nat.le_of_ble_eq_true rfl⟩) rfl hl.1 rfl (Nat.le_of_ble_eq_true rfl) dX0_corrected_8 ⟨Nat.zero_le _, Nat.zero_le _⟩ ?_
  refine lv_istore (lv' := [(4, .int (iI (nf u k))), (3, .int (iI (la u k))), (0, .ref (gX g 0)), (1, .int (iI k)), (2, .int (iI ax))]) hx hb dX0_corrected_11 hl (by decide) rfl (fun ls hl => ?_)
  refine lv_iload_n hx hb dX0_corrected_13 rfl (lv_at hl 1 rfl) ?_
  refine lv_iload_n hx hb dX0_corrected_14 rfl (lv_at hl 3 rfl) ?_
  refine z_icmp_eq (tgt := 24) hx hb dX0_corrected_15 (by decide) (by omega) (by omega) (fun c_1 => ?_) (fun c_1 => ?_)
  · refine lv_aload_n hx hb dX0_corrected_24 rfl (lv_at hl 2 rfl) ?_
    refine lv_iload_n hx hb dX0_corrected_25 rfl (lv_at hl 3 rfl) ?_
    refine lv_iload_n hx hb dX0_corrected_26 rfl (lv_at hl 4 rfl) ?_
    refine zV_l (As := [.int (iI k), .int (iI ax)]) (rest := []) ⟨hx, hb, hml, hown, hts⟩ (PX g u) (PX_blind g u) (PX_mv hPX) (rcX hK hP) (c_X0_reckoned l g u k ax hI (by omega) (by omega) (by omega)) (cwV 2 hts gX0_corrected_X0_reckoned rfl rfl rfl (by decide +kernel) ⟨Nat.le_of_ble_eq_true rfl, Nat.le_of_ble_eq_true rfl⟩) rfl hl.1 rfl (Nat.le_of_ble_eq_true rfl) dX0_corrected_27 ⟨Nat.zero_le _, Nat.zero_le _⟩ ?_
    exact zr_l hx hb hr hlocks dX0_corrected_30 (by rw [co, if_pos (by omega)])
  · refine lv_iload hx hb dX0_corrected_18 (lv_at hl 0 rfl) ?_
    refine lv_iload_n hx hb dX0_corrected_20 rfl (lv_at hl 1 rfl) ?_
    refine z_icmp_gt (tgt := 31) hx hb dX0_corrected_21 (by decide) (by omega) (by omega) (fun c_2 => ?_) (fun c_2 => ?_)
    · refine lv_aload_n hx hb dX0_corrected_31 rfl (lv_at hl 2 rfl) ?_
      refine lv_iload_n hx hb dX0_corrected_32 rfl (lv_at hl 3 rfl) ?_
      refine lv_iload_n hx hb dX0_corrected_33 rfl (lv_at hl 4 rfl) ?_
      refine zV_l (As := [.int (iI k), .int (iI ax)]) (rest := []) ⟨hx, hb, hml, hown, hts⟩ (PX g u) (PX_blind g u) (PX_mv hPX) (rcX hK hP) (c_X0_reckoned l g u k ax hI (by omega) (by omega) (by omega)) (cwV 2 hts gX0_corrected_X0_reckoned rfl rfl rfl (by decide +kernel) ⟨Nat.le_of_ble_eq_true rfl, Nat.le_of_ble_eq_true rfl⟩) rfl hl.1 rfl (Nat.le_of_ble_eq_true rfl) dX0_corrected_34 ⟨Nat.zero_le _, Nat.zero_le _⟩ ?_
      refine lv_aload_n hx hb dX0_corrected_37 rfl (lv_at hl 2 rfl) ?_
      refine lv_iload_n hx hb dX0_corrected_38 rfl (lv_at hl 1 rfl) ?_
      refine lv_iload hx hb dX0_corrected_39 (lv_at hl 0 rfl) ?_
      refine lv_iload_n hx hb dX0_corrected_41 rfl (lv_at hl 4 rfl) ?_
      refine zV_l (As := [.int (iI (la u k)), .int (iI (nf u k)), .int (iI ax)]) (rest := [.long (jI (rk u ax k))]) ⟨hx, hb, hml, hown, hts⟩ (PX g u) (PX_blind g u) (PX_mv hPX) (rcX hK hP) (c_X0_error l g u (la u k) (nf u k) ax hI (by omega) (by omega) (by omega) (by omega)) (cwV 3 hts gX0_corrected_X0_error rfl rfl rfl (by decide +kernel) ⟨Nat.le_of_ble_eq_true rfl, Nat.le_of_ble_eq_true rfl⟩) rfl hl.1 rfl (Nat.le_of_ble_eq_true rfl) dX0_corrected_42 ⟨Nat.zero_le _, Nat.zero_le _⟩ ?_
      refine lv_iload_n hx hb dX0_corrected_45 rfl (lv_at hl 3 rfl) ?_
      refine lv_iload_n hx hb dX0_corrected_46 rfl (lv_at hl 1 rfl) ?_
      refine z_isub hx hb dX0_corrected_47 ?_
      refine z_i2l hx hb (by omega) dX0_corrected_48 ?_
      refine z_lmul hx hb dX0_corrected_49 ?_
      refine lv_iload hx hb dX0_corrected_50 (lv_at hl 0 rfl) ?_
      refine lv_iload_n hx hb dX0_corrected_52 rfl (lv_at hl 1 rfl) ?_
      refine z_isub hx hb dX0_corrected_53 ?_
      refine z_i2l hx hb (by omega) dX0_corrected_54 ?_
      refine zS_l (As := [.long (jI ((er u ax (la u k) (nf u k)) * (k - (la u k)))), .long (jI ((nf u k) - (la u k)))]) (rest := [.long (jI (rk u ax k))]) ⟨hx, hb, hml, hown, hts⟩ (PT) PT_blind PT_mv  (c_J9_floorDiv_f86c9 l g ((er u ax (la u k) (nf u k)) * (k - (la u k))) ((nf u k) - (la u k)) (cor_b hI ax k0z k1z (by omega)) (by omega)) (va_cwS 2 hts gX0_corrected_J9_floorDiv_f86c9 rfl rfl rfl (by decide +kernel) ⟨Nat.le_of_ble_eq_true rfl, Nat.le_of_ble_eq_true rfl⟩) rfl hl.1 rfl (Nat.le_of_ble_eq_true rfl) dX0_corrected_55 ⟨Nat.zero_le _, Nat.zero_le _⟩ ?_
      refine z_ladd hx hb dX0_corrected_58 ?_
      exact zr_l hx hb hr hlocks dX0_corrected_59 (by rw [co, if_neg (by omega)])
    · refine lv_aload_n hx hb dX0_corrected_24 rfl (lv_at hl 2 rfl) ?_
      refine lv_iload_n hx hb dX0_corrected_25 rfl (lv_at hl 3 rfl) ?_
      refine lv_iload_n hx hb dX0_corrected_26 rfl (lv_at hl 4 rfl) ?_
      refine zV_l (As := [.int (iI k), .int (iI ax)]) (rest := []) ⟨hx, hb, hml, hown, hts⟩ (PX g u) (PX_blind g u) (PX_mv hPX) (rcX hK hP) (c_X0_reckoned l g u k ax hI (by omega) (by omega) (by omega)) (cwV 2 hts gX0_corrected_X0_reckoned rfl rfl rfl (by decide +kernel) ⟨Nat.le_of_ble_eq_true rfl, Nat.le_of_ble_eq_true rfl⟩) rfl hl.1 rfl (Nat.le_of_ble_eq_true rfl) dX0_corrected_27 ⟨Nat.zero_le _, Nat.zero_le _⟩ ?_
      exact zr_l hx hb hr hlocks dX0_corrected_30 (by rw [co, if_pos (by omega)])
set_option maxHeartbeats 4000000 in
set_option maxRecDepth 100000 in
theorem c_X0_correctedNorth (l : Launch) (g : GG) (u : ST) (k : Int) (hI : Inv u) (hb_k : B32 k) : Met l yX0_correctedNorth wsX0_correctedNorth (k2_rm 5 117) (va_Pc [.ref (gX g 0), .int (iI k)] (fun U => PX g u U U.heap)) (vp_Sl (fun r => r = jI (coR u 8 k))) 0 0 (fun _ => False) := by
  refine Met.ofW (cc := cX0_correctedNorth) (maxL := 2) (ret := (some .long)) (by decide) rfl ?_
  intro pp ee s mm args below meth cc9 s₁ B hml hv
  obtain ⟨rfl, hPX⟩ := hv
  obtain ⟨hP, hK, hZS⟩ := id hPX
  have hx := B.exec
  have hb := B.bytes
  have hr := B.returns
  have hts := atoms_spec (ws := wsX0_correctedNorth) B.pre
  have hown : s.vm.findClass RX0 = some mm.cls := findClass_of_methodNamed B.named
  have hlocks := B.notSynchronized
  have hin : ∀ w ∈ wsX00, w ∈ wsX0_correctedNorth := fun w h => List.mem_cons_of_mem _ (List.mem_append_right _ h)
  have m124 : Cond.constantLong RX0 124 (-9000000000000000003) ∈ wsX0_correctedNorth := by decide +kernel
  have hS0 : va_S nA s.heap s.heap [] := va_S.rf
  have hi_bl := iv_bl hI
  have hi_pg := iv_pg hI
  have hi_se := iv_se hI
  have hi_dr := iv_dr hI
  have hl := lv_entry ([.ref (gX g 0), .int (iI k)]) (n := 2) (Nat.le_of_ble_eq_true rfl)
  rw [lg_entry_eq]
  generalize (lg_sl ([.ref (gX g 0), .int (iI k)]) ++ List.replicate (2 - (lg_sl ([.ref (gX g 0), .int (iI k)])).length) Slot.unset).toArray = ls at hl ⊢
  have hl : lv_has ls 2 [(0, .ref (gX g 0)), (1, .int (iI k))] := hl
  refine lv_aload_n hx hb dX0_correctedNorth_0 rfl (lv_at hl 0 rfl) ?_
  refine lv_iload_n hx hb dX0_correctedNorth_1 rfl (lv_at hl 1 rfl) ?_
  refine zV_z (As := [.int (iI k)]) (rest := []) ⟨hx, hb, hml, hown, hts⟩ (PY g u) (PY_blind g u) (PY_mv hP hK) (rcX hK hP) (c_X0_momentExists l g u k hI (by omega)) (cwV 1 hts gX0_correctedNorth_X0_momentExists rfl rfl rfl (by decide +kernel) ⟨Nat.le_of_ble_eq_true rfl, Nat.le_of_ble_eq_true rfl⟩) rfl hl.1 rfl (Nat.le_of_ble_eq_true rfl) dX0_correctedNorth_2 ⟨Nat.zero_le _, Nat.zero_le _⟩ (fun c_1 => ?_) (fun c_1 => ?_)
  · refine z_if_eq (tgt := 18) hx hb dX0_correctedNorth_5 (by decide) ⟨by decide, by decide⟩ (fun c_2 => (absurd c_2 (by decide))) (fun c_2 => ?_)
    refine lv_aload_n hx hb dX0_correctedNorth_8 rfl (lv_at hl 0 rfl) ?_
    refine lv_iload_n hx hb dX0_correctedNorth_9 rfl (lv_at hl 1 rfl) ?_
    refine z_bipush hx hb dX0_correctedNorth_10 (by decide +kernel) ?_
    refine zV_l (As := [.int (iI k), .int (iI 8)]) (rest := []) ⟨hx, hb, hml, hown, hts⟩ (PX g u) (PX_blind g u) (PX_mv hPX) (rcX hK hP) (c_X0_corrected l g u k 8 hI (by omega) (by omega) (by omega)) (cwV 2 hts gX0_correctedNorth_X0_corrected rfl rfl rfl (by decide +kernel) ⟨Nat.le_of_ble_eq_true rfl, Nat.le_of_ble_eq_true rfl⟩) rfl hl.1 rfl (Nat.le_of_ble_eq_true rfl) dX0_correctedNorth_12 ⟨Nat.zero_le _, Nat.zero_le _⟩ ?_
    refine lv_goto (tgt := 21) hx hb dX0_correctedNorth_15 (by decide) ?_
    exact zr_l hx hb hr hlocks dX0_correctedNorth_21 (by unfold coR eNM; (repeat' split) <;> first | rfl | omega)
  · refine z_if_eq (tgt := 18) hx hb dX0_correctedNorth_5 (by decide) ⟨by decide, by decide⟩ (fun c_3 => ?_) (fun c_3 => (absurd c_3 (by decide)))
    refine lv_ldc2 (v := jI (-9000000000000000003)) hx hb hown (hts _ m124) dX0_correctedNorth_18 ?_
    exact zr_l hx hb hr hlocks dX0_correctedNorth_21 (by unfold coR eNM; (repeat' split) <;> first | rfl | omega)
set_option maxHeartbeats 4000000 in
set_option maxRecDepth 100000 in
theorem c_X0_correctedEast (l : Launch) (g : GG) (u : ST) (k : Int) (hI : Inv u) (hb_k : B32 k) : Met l yX0_correctedEast wsX0_correctedEast (k2_rm 5 117) (va_Pc [.ref (gX g 0), .int (iI k)] (fun U => PX g u U U.heap)) (vp_Sl (fun r => r = jI (coR u 0 k))) 0 0 (fun _ => False) := by
  refine Met.ofW (cc := cX0_correctedEast) (maxL := 2) (ret := (some .long)) (by decide) rfl ?_
  intro pp ee s mm args below meth cc9 s₁ B hml hv
  obtain ⟨rfl, hPX⟩ := hv
  obtain ⟨hP, hK, hZS⟩ := id hPX
  have hx := B.exec
  have hb := B.bytes
  have hr := B.returns
  have hts := atoms_spec (ws := wsX0_correctedEast) B.pre
  have hown : s.vm.findClass RX0 = some mm.cls := findClass_of_methodNamed B.named
  have hlocks := B.notSynchronized
  have hin : ∀ w ∈ wsX00, w ∈ wsX0_correctedEast := fun w h => List.mem_cons_of_mem _ (List.mem_append_right _ h)
  have m124 : Cond.constantLong RX0 124 (-9000000000000000003) ∈ wsX0_correctedEast := by decide +kernel
  have hS0 : va_S nA s.heap s.heap [] := va_S.rf
  have hi_bl := iv_bl hI
  have hi_pg := iv_pg hI
  have hi_se := iv_se hI
  have hi_dr := iv_dr hI
  have hl := lv_entry ([.ref (gX g 0), .int (iI k)]) (n := 2) (Nat.le_of_ble_eq_true rfl)
  rw [lg_entry_eq]
  generalize (lg_sl ([.ref (gX g 0), .int (iI k)]) ++ List.replicate (2 - (lg_sl ([.ref (gX g 0), .int (iI k)])).length) Slot.unset).toArray = ls at hl ⊢
  have hl : lv_has ls 2 [(0, .ref (gX g 0)), (1, .int (iI k))] := hl
  refine lv_aload_n hx hb dX0_correctedEast_0 rfl (lv_at hl 0 rfl) ?_
  refine lv_iload_n hx hb dX0_correctedEast_1 rfl (lv_at hl 1 rfl) ?_
  refine zV_z (As := [.int (iI k)]) (rest := []) ⟨hx, hb, hml, hown, hts⟩ (PY g u) (PY_blind g u) (PY_mv hP hK) (rcX hK hP) (c_X0_momentExists l g u k hI (by omega)) (cwV 1 hts gX0_correctedEast_X0_momentExists rfl rfl rfl (by decide +kernel) ⟨Nat.le_of_ble_eq_true rfl, Nat.le_of_ble_eq_true rfl⟩) rfl hl.1 rfl (Nat.le_of_ble_eq_true rfl) dX0_correctedEast_2 ⟨Nat.zero_le _, Nat.zero_le _⟩ (fun c_1 => ?_) (fun c_1 => ?_)
  · refine z_if_eq (tgt := 17) hx hb dX0_correctedEast_5 (by decide) ⟨by decide, by decide⟩ (fun c_2 => (absurd c_2 (by decide))) (fun c_2 => ?_)
    refine lv_aload_n hx hb dX0_correctedEast_8 rfl (lv_at hl 0 rfl) ?_
    refine lv_iload_n hx hb dX0_correctedEast_9 rfl (lv_at hl 1 rfl) ?_
    refine z_iconst hx hb dX0_correctedEast_10 ?_
    refine zV_l (As := [.int (iI k), .int (iI 0)]) (rest := []) ⟨hx, hb, hml, hown, hts⟩ (PX g u) (PX_blind g u) (PX_mv hPX) (rcX hK hP) (c_X0_corrected l g u k 0 hI (by omega) (by omega) (by omega)) (cwV 2 hts gX0_correctedEast_X0_corrected rfl rfl rfl (by decide +kernel) ⟨Nat.le_of_ble_eq_true rfl, Nat.le_of_ble_eq_true rfl⟩) rfl hl.1 rfl (Nat.le_of_ble_eq_true rfl) dX0_correctedEast_11 ⟨Nat.zero_le _, Nat.zero_le _⟩ ?_
    refine lv_goto (tgt := 20) hx hb dX0_correctedEast_14 (by decide) ?_
    exact zr_l hx hb hr hlocks dX0_correctedEast_20 (by unfold coR eNM; (repeat' split) <;> first | rfl | omega)
  · refine z_if_eq (tgt := 17) hx hb dX0_correctedEast_5 (by decide) ⟨by decide, by decide⟩ (fun c_3 => ?_) (fun c_3 => (absurd c_3 (by decide)))
    refine lv_ldc2 (v := jI (-9000000000000000003)) hx hb hown (hts _ m124) dX0_correctedEast_17 ?_
    exact zr_l hx hb hr hlocks dX0_correctedEast_20 (by unfold coR eNM; (repeat' split) <;> first | rfl | omega)
set_option maxHeartbeats 4000000 in
set_option maxRecDepth 100000 in
theorem c_X0_difference (l : Launch) (g : GG) (u : ST) (a : Int) (b : Int) (ax : Int) (hI : Inv u) (k0z : 0 ≤ a ∧ a ≤ zpg u) (k1z : 0 ≤ b ∧ b ≤ zpg u) (hax : ax = 8 ∨ ax = 0) : Met l yX0_difference wsX0_difference (k2_rm 5 117) (va_Pc [.ref (gX g 0), .int (iI a), .int (iI b), .int (iI ax)] (fun U => PX g u U U.heap)) (vp_Sl (fun r => r = jI (df u ax a b))) 0 0 (fun _ => False) := by
  refine Met.ofW (cc := cX0_difference) (maxL := 4) (ret := (some .long)) (by decide) rfl ?_
  intro pp ee s mm args below meth cc9 s₁ B hml hv
  obtain ⟨rfl, hPX⟩ := hv
  obtain ⟨hP, hK, hZS⟩ := id hPX
  have hx := B.exec
  have hb := B.bytes
  have hr := B.returns
  have hts := atoms_spec (ws := wsX0_difference) B.pre
  have hown : s.vm.findClass RX0 = some mm.cls := findClass_of_methodNamed B.named
  have hlocks := B.notSynchronized
  have hin : ∀ w ∈ wsX00, w ∈ wsX0_difference := fun w h => List.mem_cons_of_mem _ (List.mem_append_right _ h)
  have hS0 : va_S nA s.heap s.heap [] := va_S.rf
  have hi_bl := iv_bl hI
  have hi_pg := iv_pg hI
  have hi_se := iv_se hI
  have hi_dr := iv_dr hI
  have hl := lv_entry ([.ref (gX g 0), .int (iI a), .int (iI b), .int (iI ax)]) (n := 4) (Nat.le_of_ble_eq_true rfl)
  rw [lg_entry_eq]
  generalize (lg_sl ([.ref (gX g 0), .int (iI a), .int (iI b), .int (iI ax)]) ++ List.replicate (4 - (lg_sl ([.ref (gX g 0), .int (iI a), .int (iI b), .int (iI ax)])).length) Slot.unset).toArray = ls at hl ⊢
  have hl : lv_has ls 4 [(0, .ref (gX g 0)), (1, .int (iI a)), (2, .int (iI b)), (3, .int (iI ax))] := hl
  refine lv_aload_n hx hb dX0_difference_0 rfl (lv_at hl 0 rfl) ?_
  refine lv_iload_n hx hb dX0_difference_1 rfl (lv_at hl 2 rfl) ?_
  refine lv_iload_n hx hb dX0_difference_2 rfl (lv_at hl 3 rfl) ?_
  refine zV_l (As := [.int (iI b), .int (iI ax)]) (rest := []) ⟨hx, hb, hml, hown, hts⟩ (PX g u) (PX_blind g u) (PX_mv hPX) (rcX hK hP) (c_X0_corrected l g u b ax hI (by omega) (by omega) (by omega)) (cwV 2 hts gX0_difference_X0_corrected rfl rfl rfl (by decide +kernel) ⟨Nat.le_of_ble_eq_true rfl, Nat.le_of_ble_eq_true rfl⟩) rfl hl.1 rfl (Nat.le_of_ble_eq_true rfl) dX0_difference_3 ⟨Nat.zero_le _, Nat.zero_le _⟩ ?_
  refine lv_aload_n hx hb dX0_difference_6 rfl (lv_at hl 0 rfl) ?_
  refine lv_iload_n hx hb dX0_difference_7 rfl (lv_at hl 1 rfl) ?_
  refine lv_iload_n hx hb dX0_difference_8 rfl (lv_at hl 3 rfl) ?_
  refine zV_l (As := [.int (iI a), .int (iI ax)]) (rest := [.long (jI (co u ax b))]) ⟨hx, hb, hml, hown, hts⟩ (PX g u) (PX_blind g u) (PX_mv hPX) (rcX hK hP) (c_X0_corrected l g u a ax hI (by omega) (by omega) (by omega)) (cwV 2 hts gX0_difference_X0_corrected rfl rfl rfl (by decide +kernel) ⟨Nat.le_of_ble_eq_true rfl, Nat.le_of_ble_eq_true rfl⟩) rfl hl.1 rfl (Nat.le_of_ble_eq_true rfl) dX0_difference_9 ⟨Nat.zero_le _, Nat.zero_le _⟩ ?_
  refine z_lsub hx hb dX0_difference_12 ?_
  exact zr_l hx hb hr hlocks dX0_difference_13 (by first | rfl | omega)
