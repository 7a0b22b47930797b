/-! the reference, by program (genm.py): X1_floor X1_reckoned X1_corrected X1_reckonedNorth X1_reckonedEast X1_correctedNorth X1_correctedEast X1_distanceNow -/
set_option maxHeartbeats 4000000 in
set_option maxRecDepth 100000 in
theorem c_X1_floor (l : Launch) (g : GG) (a : Int) (b : Int) (h1z : -4611686018427387904 ≤ a ∧ a ≤ 4611686018427387904) (h2z : 0 < b ∧ b ≤ 48) : Met l yX1_floor wsX1_floor (k2_rm 0 0) (va_Pc [.long (jI a), .long (jI b)] (fun U => PT U U.heap)) (vp_Sl (fun r => r = jI (a / b))) 0 0 (fun _ => False) := by
  refine Met.ofW (cc := cX1_floor) (maxL := 6) (ret := (some .long)) (by decide) rfl ?_
  intro pp ee s mm args below meth cc9 s₁ B hml hv
  obtain ⟨rfl, hPX⟩ := hv
  have hx := B.exec
  have hb := B.bytes
  have hr := B.returns
  have hts := atoms_spec (ws := wsX1_floor) B.pre
  have hown : s.vm.findClass RX1 = some mm.cls := findClass_of_methodNamed B.named
  have hlocks := B.notSynchronized
  have hta := (tdiv_all (a := a) (b := b) h2z.1).1
  have htb := (tdiv_all (a := a) (b := b) h2z.1).2
  have hl := lv_entry ([.long (jI a), .long (jI b)]) (n := 6) (Nat.le_of_ble_eq_true rfl)
  rw [lg_entry_eq]
  generalize (lg_sl ([.long (jI a), .long (jI b)]) ++ List.replicate (6 - (lg_sl ([.long (jI a), .long (jI b)])).length) Slot.unset).toArray = ls at hl ⊢
  have hl : lv_has ls 6 [(0, .long (jI a)), (2, .long (jI b))] := hl
  refine lv_lload_n hx hb dX1_floor_0 rfl (lv_at hl 0 rfl) ?_
  refine lv_lload_n hx hb dX1_floor_1 rfl (lv_at hl 1 rfl) ?_
  refine z_ldiv hx hb (by omega) (by omega) dX1_floor_2 ?_
  refine lv_lstore (lv' := [(4, .long (jI (Int.tdiv a b))), (0, .long (jI a)), (2, .long (jI b))]) hx hb dX1_floor_3 hl (by decide) rfl (fun ls hl => ?_)
  refine lv_lload hx hb dX1_floor_5 (lv_at hl 0 rfl) ?_
  refine lv_lload_n hx hb dX1_floor_7 rfl (lv_at hl 2 rfl) ?_
  refine z_lmul hx hb dX1_floor_8 ?_
  refine lv_lload_n hx hb dX1_floor_9 rfl (lv_at hl 1 rfl) ?_
  refine z_lcmp_le (tgt := 21) hx hb dX1_floor_10 dX1_floor_11 (by decide) (by rcases Int.lt_or_le a 0 with q | q <;> first | (have := htb q; omega) | (have := hta q; omega)) (by omega) (fun c_1 => ?_) (fun c_1 => ?_)
  · refine lv_lload hx hb dX1_floor_21 (lv_at hl 0 rfl) ?_
    exact zr_l hx hb hr hlocks dX1_floor_23 (by rcases Int.lt_or_le a 0 with q | q <;> first | (have := htb q; first | exact this.2.2.2 (by omega) | exact this.2.2.1 (by omega)) | (have := hta q; omega))
  · refine lv_lload hx hb dX1_floor_14 (lv_at hl 0 rfl) ?_
    refine z_lconst (z := 1) hx hb dX1_floor_16 rfl ?_
    refine z_lsub hx hb dX1_floor_17 ?_
    refine lv_goto (tgt := 23) hx hb dX1_floor_18 (by decide) ?_
    exact zr_l hx hb hr hlocks dX1_floor_23 (by rcases Int.lt_or_le a 0 with q | q <;> first | (have := htb q; first | exact this.2.2.2 (by omega) | exact this.2.2.1 (by omega)) | (have := hta q; omega))
set_option maxHeartbeats 4000000 in
set_option maxRecDepth 100000 in
theorem c_X1_reckoned (l : Launch) (g : GG) (u : ST) (v : VT) (k : Int) (sd : Int) (ax : Int) (hI : Inv u) (k0z : 0 ≤ k) (k1z : k ≤ zpg u) (hs : (sd = 0 ∧ ax = 8) ∨ (sd = 1 ∧ ax = 0)) : Met l yX1_reckoned wsX1_reckoned (k2_rm 5 113) (va_Pc [.ref (gM g 0), .int (iI k), .int (iI sd)] (fun U => PM g u v U U.heap)) (vp_Sl (fun r => r = jI (rk u ax k))) 0 0 (fun _ => False) := by
  refine Met.ofW (cc := cX1_reckoned) (maxL := 3) (ret := (some .long)) (by decide) rfl ?_
  intro pp ee s mm args below meth cc9 s₁ B hml hv
  obtain ⟨rfl, hPX⟩ := hv
  obtain ⟨hP, hK⟩ := id hPX
  have hx := B.exec
  have hb := B.bytes
  have hr := B.returns
  have hts := atoms_spec (ws := wsX1_reckoned) B.pre
  have hown : s.vm.findClass RX1 = some mm.cls := findClass_of_methodNamed B.named
  have hlocks := B.notSynchronized
  have hin : ∀ w ∈ wsX10, w ∈ wsX1_reckoned := fun w h => List.mem_cons_of_mem _ (List.mem_append_right _ h)
  have hi_bl := iv_bl hI
  have hi_pg := iv_pg hI
  have hi_se := iv_se hI
  have hi_dr := iv_dr hI
  have hla := la_rng u k0z
  have hl := lv_entry ([.ref (gM g 0), .int (iI k), .int (iI sd)]) (n := 3) (Nat.le_of_ble_eq_true rfl)
  rw [lg_entry_eq]
  generalize (lg_sl ([.ref (gM g 0), .int (iI k), .int (iI sd)]) ++ List.replicate (3 - (lg_sl ([.ref (gM g 0), .int (iI k), .int (iI sd)])).length) Slot.unset).toArray = ls at hl ⊢
  have hl : lv_has ls 3 [(0, .ref (gM g 0)), (1, .int (iI k)), (2, .int (iI sd))] := hl
  refine lv_aload_n hx hb dX1_reckoned_0 rfl (lv_at hl 0 rfl) ?_
  refine lv_aload_n hx hb dX1_reckoned_1 rfl (lv_at hl 0 rfl) ?_
  refine lv_iload_n hx hb dX1_reckoned_2 rfl (lv_at hl 1 rfl) ?_
  refine zV_i (As := [.int (iI k)]) (rest := [.ref (gM g 0)]) ⟨hx, hb, hml, hown, hts⟩ (PM g u v) (PM_blind g u v) (PM_mv hP hK) (rcM hK hP) (c_X1_fixAt l g u v k hI (by omega) (by omega)) (cwV 1 hts gX1_reckoned_X1_fixAt rfl rfl rfl (by decide +kernel) ⟨Nat.le_of_ble_eq_true rfl, Nat.le_of_ble_eq_true rfl⟩) rfl hl.1 rfl (Nat.le_of_ble_eq_true rfl) dX1_reckoned_3 ⟨Nat.zero_le _, Nat.zero_le _⟩ ?_
  refine lv_iload_n hx hb dX1_reckoned_6 rfl (lv_at hl 1 rfl) ?_
  refine lv_iload_n hx hb dX1_reckoned_7 rfl (lv_at hl 2 rfl) ?_
  refine zV_l (As := [.int (iI (la u k)), .int (iI k), .int (iI sd)]) (rest := []) ⟨hx, hb, hml, hown, hts⟩ (PM g u v) (PM_blind g u v) (PM_mv hP hK) (rcM hK hP) (c_X1_gone l g u v (la u k) k sd ax hI (by omega) (by omega) (by omega) (by omega)) (cwV 3 hts gX1_reckoned_X1_gone rfl rfl rfl (by decide +kernel) ⟨Nat.le_of_ble_eq_true rfl, Nat.le_of_ble_eq_true rfl⟩) rfl hl.1 rfl (Nat.le_of_ble_eq_true rfl) dX1_reckoned_8 ⟨Nat.zero_le _, Nat.zero_le _⟩ ?_
  exact zr_l hx hb hr hlocks dX1_reckoned_11 rfl
set_option maxHeartbeats 4000000 in
set_option maxRecDepth 100000 in
theorem c_X1_corrected (l : Launch) (g : GG) (u : ST) (v : VT) (k : Int) (sd : Int) (ax : Int) (hI : Inv u) (k0z : 0 ≤ k) (k1z : k ≤ zpg u) (hs : (sd = 0 ∧ ax = 8) ∨ (sd = 1 ∧ ax = 0)) : Met l yX1_corrected wsX1_corrected (k2_rm 5 113) (va_Pc [.ref (gM g 0), .int (iI k), .int (iI sd)] (fun U => PM g u v U U.heap)) (vp_Sl (fun r => r = jI (co u ax k))) 0 0 (fun _ => False) := by
  refine Met.ofW (cc := cX1_corrected) (maxL := 9) (ret := (some .long)) (by decide) rfl ?_
  intro pp ee s mm args below meth cc9 s₁ B hml hv
  obtain ⟨rfl, hPX⟩ := hv
  obtain ⟨hP, hK⟩ := id hPX
  have hx := B.exec
  have hb := B.bytes
  have hr := B.returns
  have hts := atoms_spec (ws := wsX1_corrected) B.pre
  have hown : s.vm.findClass RX1 = some mm.cls := findClass_of_methodNamed B.named
  have hlocks := B.notSynchronized
  have hin : ∀ w ∈ wsX10, w ∈ wsX1_corrected := fun w h => List.mem_cons_of_mem _ (List.mem_append_right _ h)
  have hi_bl := iv_bl hI
  have hi_pg := iv_pg hI
  have hi_se := iv_se hI
  have hi_dr := iv_dr hI
  have hla := la_rng u k0z
  have hnf := nf_rng u k
  have hl := lv_entry ([.ref (gM g 0), .int (iI k), .int (iI sd)]) (n := 9) (Nat.le_of_ble_eq_true rfl)
  rw [lg_entry_eq]
  generalize (lg_sl ([.ref (gM g 0), .int (iI k), .int (iI sd)]) ++ List.replicate (9 - (lg_sl ([.ref (gM g 0), .int (iI k), .int (iI sd)])).length) Slot.unset).toArray = ls at hl ⊢
  have hl : lv_has ls 9 [(0, .ref (gM g 0)), (1, .int (iI k)), (2, .int (iI sd))] := hl
  refine lv_aload_n hx hb dX1_corrected_0 rfl (lv_at hl 0 rfl) ?_
  refine lv_iload_n hx hb dX1_corrected_1 rfl (lv_at hl 1 rfl) ?_
  refine zV_i (As := [.int (iI k)]) (rest := []) ⟨hx, hb, hml, hown, hts⟩ (PM g u v) (PM_blind g u v) (PM_mv hP hK) (rcM hK hP) (c_X1_fixAt l g u v k hI (by omega) (by omega)) (cwV 1 hts gX1_corrected_X1_fixAt rfl rfl rfl (by decide +kernel) ⟨Nat.le_of_ble_eq_true rfl, Nat.le_of_ble_eq_true rfl⟩) rfl hl.1 rfl (Nat.le_of_ble_eq_true rfl) dX1_corrected_2 ⟨Nat.zero_le _, Nat.zero_le _⟩ ?_
  refine lv_istore_n (lv' := [(3, .int (iI (la u k))), (0, .ref (gM g 0)), (1, .int (iI k)), (2, .int (iI sd))]) hx hb dX1_corrected_5 rfl hl (by decide) rfl (fun ls hl => ?_)
  refine lv_aload_n hx hb dX1_corrected_6 rfl (lv_at hl 1 rfl) ?_
  refine lv_iload_n hx hb dX1_corrected_7 rfl (lv_at hl 2 rfl) ?_
  refine zV_i (As := [.int (iI k)]) (rest := []) ⟨hx, hb, hml, hown, hts⟩ (PM g u v) (PM_blind g u v) (PM_mv hP hK) (rcM hK hP) (c_X1_fixBehind l g u v k hI (by omega) (by omega)) (cwV 1 hts gX1_corrected_X1_fixBehind rfl rfl rfl (by decide +kernel) ⟨Nat.le_of_ble_eq_true rfl, Nat.le_of_ble_eq_true rfl⟩) rfl hl.1 rfl (Nat.le_of_ble_eq_true rfl) dX1_corrected_8 ⟨Nat.zero_le _, Nat.zero_le _⟩ ?_
  refine lv_istore (lv' := [(4, .int (iI (nf u k))), (3, .int (iI (la u k))), (0, .ref (gM g 0)), (1, .int (iI k)), (2, .int (iI sd))]) hx hb dX1_corrected_11 hl (by decide) rfl (fun ls hl => ?_)
  refine lv_aload_n hx hb dX1_corrected_13 rfl (lv_at hl 2 rfl) ?_
  refine lv_iload_n hx hb dX1_corrected_14 rfl (lv_at hl 1 rfl) ?_
  refine lv_iload_n hx hb dX1_corrected_15 rfl (lv_at hl 3 rfl) ?_
  refine lv_iload_n hx hb dX1_corrected_16 rfl (lv_at hl 4 rfl) ?_
  refine zV_l (As := [.int (iI (la u k)), .int (iI k), .int (iI sd)]) (rest := []) ⟨hx, hb, hml, hown, hts⟩ (PM g u v) (PM_blind g u v) (PM_mv hP hK) (rcM hK hP) (c_X1_gone l g u v (la u k) k sd ax hI (by omega) (by omega) (by omega) (by omega)) (cwV 3 hts gX1_corrected_X1_gone rfl rfl rfl (by decide +kernel) ⟨Nat.le_of_ble_eq_true rfl, Nat.le_of_ble_eq_true rfl⟩) rfl hl.1 rfl (Nat.le_of_ble_eq_true rfl) dX1_corrected_17 ⟨Nat.zero_le _, Nat.zero_le _⟩ ?_
  refine lv_lstore (lv' := [(5, .long (jI (fxc u ax (la u k) + lg u ax (la u k) k))), (4, .int (iI (nf u k))), (3, .int (iI (la u k))), (0, .ref (gM g 0)), (1, .int (iI k)), (2, .int (iI sd))]) hx hb dX1_corrected_20 hl (by decide) rfl (fun ls hl => ?_)
  refine lv_iload_n hx hb dX1_corrected_22 rfl (lv_at hl 2 rfl) ?_
  refine lv_iload_n hx hb dX1_corrected_23 rfl (lv_at hl 4 rfl) ?_
  refine z_icmp_eq (tgt := 32) hx hb dX1_corrected_24 (by decide) (by omega) (by omega) (fun c_1 => ?_) (fun c_1 => ?_)
  · refine lv_lload hx hb dX1_corrected_32 (lv_at hl 0 rfl) ?_
    exact zr_l hx hb hr hlocks dX1_corrected_34 (by rw [co, if_pos (by omega)]; rfl)
  · refine lv_iload hx hb dX1_corrected_27 (lv_at hl 1 rfl) ?_
    refine z_if_ge (tgt := 35) hx hb dX1_corrected_29 (by decide) (by omega) (fun c_2 => ?_) (fun c_2 => ?_)
    · refine lv_aload_n hx hb dX1_corrected_35 rfl (lv_at hl 3 rfl) ?_
      refine lv_iload hx hb dX1_corrected_36 (lv_at hl 1 rfl) ?_
      refine lv_iload_n hx hb dX1_corrected_38 rfl (lv_at hl 5 rfl) ?_
      refine zV_l (As := [.int (iI (nf u k)), .int (iI sd)]) (rest := []) ⟨hx, hb, hml, hown, hts⟩ (PM g u v) (PM_blind g u v) (PM_mv hP hK) (rcM hK hP) (c_X1_fixed l g u v (nf u k) sd ax hI (by omega) (by omega) (by omega)) (cwV 2 hts gX1_corrected_X1_fixed rfl rfl rfl (by decide +kernel) ⟨Nat.le_of_ble_eq_true rfl, Nat.le_of_ble_eq_true rfl⟩) rfl hl.1 rfl (Nat.le_of_ble_eq_true rfl) dX1_corrected_39 ⟨Nat.zero_le _, Nat.zero_le _⟩ ?_
      refine lv_aload_n hx hb dX1_corrected_42 rfl (lv_at hl 3 rfl) ?_
      refine lv_iload_n hx hb dX1_corrected_43 rfl (lv_at hl 2 rfl) ?_
      refine lv_iload hx hb dX1_corrected_44 (lv_at hl 1 rfl) ?_
      refine lv_iload_n hx hb dX1_corrected_46 rfl (lv_at hl 5 rfl) ?_
      refine zV_l (As := [.int (iI (la u k)), .int (iI (nf u k)), .int (iI sd)]) (rest := [.long (jI (fxc u ax (nf u k)))]) ⟨hx, hb, hml, hown, hts⟩ (PM g u v) (PM_blind g u v) (PM_mv hP hK) (rcM hK hP) (c_X1_gone l g u v (la u k) (nf u k) sd ax hI (by omega) (by omega) (by omega) (by omega)) (cwV 3 hts gX1_corrected_X1_gone rfl rfl rfl (by decide +kernel) ⟨Nat.le_of_ble_eq_true rfl, Nat.le_of_ble_eq_true rfl⟩) rfl hl.1 rfl (Nat.le_of_ble_eq_true rfl) dX1_corrected_47 ⟨Nat.zero_le _, Nat.zero_le _⟩ ?_
      refine z_lsub hx hb dX1_corrected_50 ?_
      obtain ⟨er9, her⟩ : ∃ z9z : Int, z9z = (fxc u ax (nf u k)) - (fxc u ax (la u k) + lg u ax (la u k) (nf u k)) := ⟨_, rfl⟩
      rw [← her]
      have her2 : er9 = er u ax (la u k) (nf u k) := by rw [her]; unfold er; omega
      refine lv_lstore (lv' := [(7, .long (jI er9)), (5, .long (jI (fxc u ax (la u k) + lg u ax (la u k) k))), (4, .int (iI (nf u k))), (3, .int (iI (la u k))), (0, .ref (gM g 0)), (1, .int (iI k)), (2, .int (iI sd))]) hx hb dX1_corrected_51 hl (by decide) rfl (fun ls hl => ?_)
      refine lv_lload hx hb dX1_corrected_53 (lv_at hl 1 rfl) ?_
      refine lv_lload hx hb dX1_corrected_55 (lv_at hl 0 rfl) ?_
      refine lv_iload_n hx hb dX1_corrected_57 rfl (lv_at hl 5 rfl) ?_
      refine lv_iload_n hx hb dX1_corrected_58 rfl (lv_at hl 3 rfl) ?_
      refine z_isub hx hb dX1_corrected_59 ?_
      refine z_i2l hx hb (by omega) dX1_corrected_60 ?_
      refine z_lmul hx hb dX1_corrected_61 ?_
      refine lv_iload hx hb dX1_corrected_62 (lv_at hl 2 rfl) ?_
      refine lv_iload_n hx hb dX1_corrected_64 rfl (lv_at hl 3 rfl) ?_
      refine z_isub hx hb dX1_corrected_65 ?_
      refine z_i2l hx hb (by omega) dX1_corrected_66 ?_
      refine zS_l (As := [.long (jI (er9 * (k - (la u k)))), .long (jI ((nf u k) - (la u k)))]) (rest := [.long (jI (fxc u ax (la u k) + lg u ax (la u k) k))]) ⟨hx, hb, hml, hown, hts⟩ (PT) PT_blind PT_mv  (c_X1_floor l g (er9 * (k - (la u k))) ((nf u k) - (la u k)) (by rw [her2]; exact cor_b hI ax k0z k1z (by omega)) (by omega)) (va_cwS 2 hts gX1_corrected_X1_floor rfl rfl rfl (by decide +kernel) ⟨Nat.le_of_ble_eq_true rfl, Nat.le_of_ble_eq_true rfl⟩) rfl hl.1 rfl (Nat.le_of_ble_eq_true rfl) dX1_corrected_67 ⟨Nat.zero_le _, Nat.zero_le _⟩ ?_
      refine z_ladd hx hb dX1_corrected_70 ?_
      exact zr_l hx hb hr hlocks dX1_corrected_71 (by rw [co, if_neg (by omega), her2]; rfl)
    · refine lv_lload hx hb dX1_corrected_32 (lv_at hl 0 rfl) ?_
      exact zr_l hx hb hr hlocks dX1_corrected_34 (by rw [co, if_pos (by omega)]; rfl)
set_option maxHeartbeats 4000000 in
set_option maxRecDepth 100000 in
theorem c_X1_reckonedNorth (l : Launch) (g : GG) (u : ST) (v : VT) (k : Int) (hI : Inv u) (hb_k : B32 k) : Met l yX1_reckonedNorth wsX1_reckonedNorth (k2_rm 6 135) (va_Pc [.ref (gM g 0), .int (iI k)] (fun U => PM g u v U U.heap)) (vp_Sl (fun r => r = jI (rkR u 8 k))) 0 0 (fun _ => False) := by
  refine Met.ofW (cc := cX1_reckonedNorth) (maxL := 2) (ret := (some .long)) (by decide) rfl ?_
  intro pp ee s mm args below meth cc9 s₁ B hml hv
  obtain ⟨rfl, hPX⟩ := hv
  obtain ⟨hP, hK⟩ := id hPX
  have hx := B.exec
  have hb := B.bytes
  have hr := B.returns
  have hts := atoms_spec (ws := wsX1_reckonedNorth) B.pre
  have hown : s.vm.findClass RX1 = some mm.cls := findClass_of_methodNamed B.named
  have hlocks := B.notSynchronized
  have hin : ∀ w ∈ wsX10, w ∈ wsX1_reckonedNorth := fun w h => List.mem_cons_of_mem _ (List.mem_append_right _ h)
  have m129 : Cond.constantLong RX1 129 (-9000000000000000003) ∈ wsX1_reckonedNorth := by decide +kernel
  have hi_bl := iv_bl hI
  have hi_pg := iv_pg hI
  have hi_se := iv_se hI
  have hi_dr := iv_dr hI
  have hl := lv_entry ([.ref (gM g 0), .int (iI k)]) (n := 2) (Nat.le_of_ble_eq_true rfl)
  rw [lg_entry_eq]
  generalize (lg_sl ([.ref (gM g 0), .int (iI k)]) ++ List.replicate (2 - (lg_sl ([.ref (gM g 0), .int (iI k)])).length) Slot.unset).toArray = ls at hl ⊢
  have hl : lv_has ls 2 [(0, .ref (gM g 0)), (1, .int (iI k))] := hl
  refine lv_aload_n hx hb dX1_reckonedNorth_0 rfl (lv_at hl 0 rfl) ?_
  refine lv_iload_n hx hb dX1_reckonedNorth_1 rfl (lv_at hl 1 rfl) ?_
  refine zV_z (As := [.int (iI k)]) (rest := []) ⟨hx, hb, hml, hown, hts⟩ (PM g u v) (PM_blind g u v) (PM_mv hP hK) (rcM hK hP) (c_X1_isMoment l g u v k hI (by omega)) (cwV 1 hts gX1_reckonedNorth_X1_isMoment rfl rfl rfl (by decide +kernel) ⟨Nat.le_of_ble_eq_true rfl, Nat.le_of_ble_eq_true rfl⟩) rfl hl.1 rfl (Nat.le_of_ble_eq_true rfl) dX1_reckonedNorth_2 ⟨Nat.zero_le _, Nat.zero_le _⟩ (fun c_1 => ?_) (fun c_1 => ?_)
  · refine z_if_eq (tgt := 17) hx hb dX1_reckonedNorth_5 (by decide) ⟨by decide, by decide⟩ (fun c_2 => (absurd c_2 (by decide))) (fun c_2 => ?_)
    refine lv_aload_n hx hb dX1_reckonedNorth_8 rfl (lv_at hl 0 rfl) ?_
    refine lv_iload_n hx hb dX1_reckonedNorth_9 rfl (lv_at hl 1 rfl) ?_
    refine z_iconst hx hb dX1_reckonedNorth_10 ?_
    refine zV_l (As := [.int (iI k), .int (iI 0)]) (rest := []) ⟨hx, hb, hml, hown, hts⟩ (PM g u v) (PM_blind g u v) (PM_mv hP hK) (rcM hK hP) (c_X1_reckoned l g u v k 0 8 hI (by omega) (by omega) (by omega)) (cwV 2 hts gX1_reckonedNorth_X1_reckoned rfl rfl rfl (by decide +kernel) ⟨Nat.le_of_ble_eq_true rfl, Nat.le_of_ble_eq_true rfl⟩) rfl hl.1 rfl (Nat.le_of_ble_eq_true rfl) dX1_reckonedNorth_11 ⟨Nat.zero_le _, Nat.zero_le _⟩ ?_
    refine lv_goto (tgt := 20) hx hb dX1_reckonedNorth_14 (by decide) ?_
    exact zr_l hx hb hr hlocks dX1_reckonedNorth_20 (by unfold rkR eNM; (repeat' split) <;> first | rfl | omega)
  · refine z_if_eq (tgt := 17) hx hb dX1_reckonedNorth_5 (by decide) ⟨by decide, by decide⟩ (fun c_3 => ?_) (fun c_3 => (absurd c_3 (by decide)))
    refine lv_ldc2 (v := jI (-9000000000000000003)) hx hb hown (hts _ m129) dX1_reckonedNorth_17 ?_
    exact zr_l hx hb hr hlocks dX1_reckonedNorth_20 (by unfold rkR eNM; (repeat' split) <;> first | rfl | omega)
set_option maxHeartbeats 4000000 in
set_option maxRecDepth 100000 in
theorem c_X1_reckonedEast (l : Launch) (g : GG) (u : ST) (v : VT) (k : Int) (hI : Inv u) (hb_k : B32 k) : Met l yX1_reckonedEast wsX1_reckonedEast (k2_rm 6 135) (va_Pc [.ref (gM g 0), .int (iI k)] (fun U => PM g u v U U.heap)) (vp_Sl (fun r => r = jI (rkR u 0 k))) 0 0 (fun _ => False) := by
  refine Met.ofW (cc := cX1_reckonedEast) (maxL := 2) (ret := (some .long)) (by decide) rfl ?_
  intro pp ee s mm args below meth cc9 s₁ B hml hv
  obtain ⟨rfl, hPX⟩ := hv
  obtain ⟨hP, hK⟩ := id hPX
  have hx := B.exec
  have hb := B.bytes
  have hr := B.returns
  have hts := atoms_spec (ws := wsX1_reckonedEast) B.pre
  have hown : s.vm.findClass RX1 = some mm.cls := findClass_of_methodNamed B.named
  have hlocks := B.notSynchronized
  have hin : ∀ w ∈ wsX10, w ∈ wsX1_reckonedEast := fun w h => List.mem_cons_of_mem _ (List.mem_append_right _ h)
  have m129 : Cond.constantLong RX1 129 (-9000000000000000003) ∈ wsX1_reckonedEast := by decide +kernel
  have hi_bl := iv_bl hI
  have hi_pg := iv_pg hI
  have hi_se := iv_se hI
  have hi_dr := iv_dr hI
  have hl := lv_entry ([.ref (gM g 0), .int (iI k)]) (n := 2) (Nat.le_of_ble_eq_true rfl)
  rw [lg_entry_eq]
  generalize (lg_sl ([.ref (gM g 0), .int (iI k)]) ++ List.replicate (2 - (lg_sl ([.ref (gM g 0), .int (iI k)])).length) Slot.unset).toArray = ls at hl ⊢
  have hl : lv_has ls 2 [(0, .ref (gM g 0)), (1, .int (iI k))] := hl
  refine lv_aload_n hx hb dX1_reckonedEast_0 rfl (lv_at hl 0 rfl) ?_
  refine lv_iload_n hx hb dX1_reckonedEast_1 rfl (lv_at hl 1 rfl) ?_
  refine zV_z (As := [.int (iI k)]) (rest := []) ⟨hx, hb, hml, hown, hts⟩ (PM g u v) (PM_blind g u v) (PM_mv hP hK) (rcM hK hP) (c_X1_isMoment l g u v k hI (by omega)) (cwV 1 hts gX1_reckonedEast_X1_isMoment rfl rfl rfl (by decide +kernel) ⟨Nat.le_of_ble_eq_true rfl, Nat.le_of_ble_eq_true rfl⟩) rfl hl.1 rfl (Nat.le_of_ble_eq_true rfl) dX1_reckonedEast_2 ⟨Nat.zero_le _, Nat.zero_le _⟩ (fun c_1 => ?_) (fun c_1 => ?_)
  · refine z_if_eq (tgt := 17) hx hb dX1_reckonedEast_5 (by decide) ⟨by decide, by decide⟩ (fun c_2 => (absurd c_2 (by decide))) (fun c_2 => ?_)
    refine lv_aload_n hx hb dX1_reckonedEast_8 rfl (lv_at hl 0 rfl) ?_
    refine lv_iload_n hx hb dX1_reckonedEast_9 rfl (lv_at hl 1 rfl) ?_
    refine z_iconst hx hb dX1_reckonedEast_10 ?_
    refine zV_l (As := [.int (iI k), .int (iI 1)]) (rest := []) ⟨hx, hb, hml, hown, hts⟩ (PM g u v) (PM_blind g u v) (PM_mv hP hK) (rcM hK hP) (c_X1_reckoned l g u v k 1 0 hI (by omega) (by omega) (by omega)) (cwV 2 hts gX1_reckonedEast_X1_reckoned rfl rfl rfl (by decide +kernel) ⟨Nat.le_of_ble_eq_true rfl, Nat.le_of_ble_eq_true rfl⟩) rfl hl.1 rfl (Nat.le_of_ble_eq_true rfl) dX1_reckonedEast_11 ⟨Nat.zero_le _, Nat.zero_le _⟩ ?_
    refine lv_goto (tgt := 20) hx hb dX1_reckonedEast_14 (by decide) ?_
    exact zr_l hx hb hr hlocks dX1_reckonedEast_20 (by unfold rkR eNM; (repeat' split) <;> first | rfl | omega)
  · refine z_if_eq (tgt := 17) hx hb dX1_reckonedEast_5 (by decide) ⟨by decide, by decide⟩ (fun c_3 => ?_) (fun c_3 => (absurd c_3 (by decide)))
    refine lv_ldc2 (v := jI (-9000000000000000003)) hx hb hown (hts _ m129) dX1_reckonedEast_17 ?_
    exact zr_l hx hb hr hlocks dX1_reckonedEast_20 (by unfold rkR eNM; (repeat' split) <;> first | rfl | omega)
set_option maxHeartbeats 4000000 in
set_option maxRecDepth 100000 in
theorem c_X1_correctedNorth (l : Launch) (g : GG) (u : ST) (v : VT) (k : Int) (hI : Inv u) (hb_k : B32 k) : Met l yX1_correctedNorth wsX1_correctedNorth (k2_rm 6 141) (va_Pc [.ref (gM g 0), .int (iI k)] (fun U => PM g u v U U.heap)) (vp_Sl (fun r => r = jI (coR u 8 k))) 0 0 (fun _ => False) := by
  refine Met.ofW (cc := cX1_correctedNorth) (maxL := 2) (ret := (some .long)) (by decide) rfl ?_
  intro pp ee s mm args below meth cc9 s₁ B hml hv
  obtain ⟨rfl, hPX⟩ := hv
  obtain ⟨hP, hK⟩ := id hPX
  have hx := B.exec
  have hb := B.bytes
  have hr := B.returns
  have hts := atoms_spec (ws := wsX1_correctedNorth) B.pre
  have hown : s.vm.findClass RX1 = some mm.cls := findClass_of_methodNamed B.named
  have hlocks := B.notSynchronized
  have hin : ∀ w ∈ wsX10, w ∈ wsX1_correctedNorth := fun w h => List.mem_cons_of_mem _ (List.mem_append_right _ h)
  have m129 : Cond.constantLong RX1 129 (-9000000000000000003) ∈ wsX1_correctedNorth := by decide +kernel
  have hi_bl := iv_bl hI
  have hi_pg := iv_pg hI
  have hi_se := iv_se hI
  have hi_dr := iv_dr hI
  have hl := lv_entry ([.ref (gM g 0), .int (iI k)]) (n := 2) (Nat.le_of_ble_eq_true rfl)
  rw [lg_entry_eq]
  generalize (lg_sl ([.ref (gM g 0), .int (iI k)]) ++ List.replicate (2 - (lg_sl ([.ref (gM g 0), .int (iI k)])).length) Slot.unset).toArray = ls at hl ⊢
  have hl : lv_has ls 2 [(0, .ref (gM g 0)), (1, .int (iI k))] := hl
  refine lv_aload_n hx hb dX1_correctedNorth_0 rfl (lv_at hl 0 rfl) ?_
  refine lv_iload_n hx hb dX1_correctedNorth_1 rfl (lv_at hl 1 rfl) ?_
  refine zV_z (As := [.int (iI k)]) (rest := []) ⟨hx, hb, hml, hown, hts⟩ (PM g u v) (PM_blind g u v) (PM_mv hP hK) (rcM hK hP) (c_X1_isMoment l g u v k hI (by omega)) (cwV 1 hts gX1_correctedNorth_X1_isMoment rfl rfl rfl (by decide +kernel) ⟨Nat.le_of_ble_eq_true rfl, Nat.le_of_ble_eq_true rfl⟩) rfl hl.1 rfl (Nat.le_of_ble_eq_true rfl) dX1_correctedNorth_2 ⟨Nat.zero_le _, Nat.zero_le _⟩ (fun c_1 => ?_) (fun c_1 => ?_)
  · refine z_if_eq (tgt := 17) hx hb dX1_correctedNorth_5 (by decide) ⟨by decide, by decide⟩ (fun c_2 => (absurd c_2 (by decide))) (fun c_2 => ?_)
    refine lv_aload_n hx hb dX1_correctedNorth_8 rfl (lv_at hl 0 rfl) ?_
    refine lv_iload_n hx hb dX1_correctedNorth_9 rfl (lv_at hl 1 rfl) ?_
    refine z_iconst hx hb dX1_correctedNorth_10 ?_
    refine zV_l (As := [.int (iI k), .int (iI 0)]) (rest := []) ⟨hx, hb, hml, hown, hts⟩ (PM g u v) (PM_blind g u v) (PM_mv hP hK) (rcM hK hP) (c_X1_corrected l g u v k 0 8 hI (by omega) (by omega) (by omega)) (cwV 2 hts gX1_correctedNorth_X1_corrected rfl rfl rfl (by decide +kernel) ⟨Nat.le_of_ble_eq_true rfl, Nat.le_of_ble_eq_true rfl⟩) rfl hl.1 rfl (Nat.le_of_ble_eq_true rfl) dX1_correctedNorth_11 ⟨Nat.zero_le _, Nat.zero_le _⟩ ?_
    refine lv_goto (tgt := 20) hx hb dX1_correctedNorth_14 (by decide) ?_
    exact zr_l hx hb hr hlocks dX1_correctedNorth_20 (by unfold coR eNM; (repeat' split) <;> first | rfl | omega)
  · refine z_if_eq (tgt := 17) hx hb dX1_correctedNorth_5 (by decide) ⟨by decide, by decide⟩ (fun c_3 => ?_) (fun c_3 => (absurd c_3 (by decide)))
    refine lv_ldc2 (v := jI (-9000000000000000003)) hx hb hown (hts _ m129) dX1_correctedNorth_17 ?_
    exact zr_l hx hb hr hlocks dX1_correctedNorth_20 (by unfold coR eNM; (repeat' split) <;> first | rfl | omega)
set_option maxHeartbeats 4000000 in
set_option maxRecDepth 100000 in
theorem c_X1_correctedEast (l : Launch) (g : GG) (u : ST) (v : VT) (k : Int) (hI : Inv u) (hb_k : B32 k) : Met l yX1_correctedEast wsX1_correctedEast (k2_rm 6 141) (va_Pc [.ref (gM g 0), .int (iI k)] (fun U => PM g u v U U.heap)) (vp_Sl (fun r => r = jI (coR u 0 k))) 0 0 (fun _ => False) := by
  refine Met.ofW (cc := cX1_correctedEast) (maxL := 2) (ret := (some .long)) (by decide) rfl ?_
  intro pp ee s mm args below meth cc9 s₁ B hml hv
  obtain ⟨rfl, hPX⟩ := hv
  obtain ⟨hP, hK⟩ := id hPX
  have hx := B.exec
  have hb := B.bytes
  have hr := B.returns
  have hts := atoms_spec (ws := wsX1_correctedEast) B.pre
  have hown : s.vm.findClass RX1 = some mm.cls := findClass_of_methodNamed B.named
  have hlocks := B.notSynchronized
  have hin : ∀ w ∈ wsX10, w ∈ wsX1_correctedEast := fun w h => List.mem_cons_of_mem _ (List.mem_append_right _ h)
  have m129 : Cond.constantLong RX1 129 (-9000000000000000003) ∈ wsX1_correctedEast := by decide +kernel
  have hi_bl := iv_bl hI
  have hi_pg := iv_pg hI
  have hi_se := iv_se hI
  have hi_dr := iv_dr hI
  have hl := lv_entry ([.ref (gM g 0), .int (iI k)]) (n := 2) (Nat.le_of_ble_eq_true rfl)
  rw [lg_entry_eq]
  generalize (lg_sl ([.ref (gM g 0), .int (iI k)]) ++ List.replicate (2 - (lg_sl ([.ref (gM g 0), .int (iI k)])).length) Slot.unset).toArray = ls at hl ⊢
  have hl : lv_has ls 2 [(0, .ref (gM g 0)), (1, .int (iI k))] := hl
  refine lv_aload_n hx hb dX1_correctedEast_0 rfl (lv_at hl 0 rfl) ?_
  refine lv_iload_n hx hb dX1_correctedEast_1 rfl (lv_at hl 1 rfl) ?_
  refine zV_z (As := [.int (iI k)]) (rest := []) ⟨hx, hb, hml, hown, hts⟩ (PM g u v) (PM_blind g u v) (PM_mv hP hK) (rcM hK hP) (c_X1_isMoment l g u v k hI (by omega)) (cwV 1 hts gX1_correctedEast_X1_isMoment rfl rfl rfl (by decide +kernel) ⟨Nat.le_of_ble_eq_true rfl, Nat.le_of_ble_eq_true rfl⟩) rfl hl.1 rfl (Nat.le_of_ble_eq_true rfl) dX1_correctedEast_2 ⟨Nat.zero_le _, Nat.zero_le _⟩ (fun c_1 => ?_) (fun c_1 => ?_)
  · refine z_if_eq (tgt := 17) hx hb dX1_correctedEast_5 (by decide) ⟨by decide, by decide⟩ (fun c_2 => (absurd c_2 (by decide))) (fun c_2 => ?_)
    refine lv_aload_n hx hb dX1_correctedEast_8 rfl (lv_at hl 0 rfl) ?_
    refine lv_iload_n hx hb dX1_correctedEast_9 rfl (lv_at hl 1 rfl) ?_
    refine z_iconst hx hb dX1_correctedEast_10 ?_
    refine zV_l (As := [.int (iI k), .int (iI 1)]) (rest := []) ⟨hx, hb, hml, hown, hts⟩ (PM g u v) (PM_blind g u v) (PM_mv hP hK) (rcM hK hP) (c_X1_corrected l g u v k 1 0 hI (by omega) (by omega) (by omega)) (cwV 2 hts gX1_correctedEast_X1_corrected rfl rfl rfl (by decide +kernel) ⟨Nat.le_of_ble_eq_true rfl, Nat.le_of_ble_eq_true rfl⟩) rfl hl.1 rfl (Nat.le_of_ble_eq_true rfl) dX1_correctedEast_11 ⟨Nat.zero_le _, Nat.zero_le _⟩ ?_
    refine lv_goto (tgt := 20) hx hb dX1_correctedEast_14 (by decide) ?_
    exact zr_l hx hb hr hlocks dX1_correctedEast_20 (by unfold coR eNM; (repeat' split) <;> first | rfl | omega)
  · refine z_if_eq (tgt := 17) hx hb dX1_correctedEast_5 (by decide) ⟨by decide, by decide⟩ (fun c_3 => ?_) (fun c_3 => (absurd c_3 (by decide)))
    refine lv_ldc2 (v := jI (-9000000000000000003)) hx hb hown (hts _ m129) dX1_correctedEast_17 ?_
    exact zr_l hx hb hr hlocks dX1_correctedEast_20 (by unfold coR eNM; (repeat' split) <;> first | rfl | omega)
set_option maxHeartbeats 4000000 in
set_option maxRecDepth 100000 in
theorem c_X1_distanceNow (l : Launch) (g : GG) (u : ST) (v : VT) (a : Int) (b : Int) (hI : Inv u) (k0z : 0 ≤ a ∧ a ≤ zpg u) (k1z : 0 ≤ b ∧ b ≤ zpg u) : Met l yX1_distanceNow wsX1_distanceNow (k2_rm 6 141) (va_Pc [.ref (gM g 0), .int (iI a), .int (iI b)] (fun U => PM g u v U U.heap)) (vp_Sl (fun r => r = jI (dist u a b))) 0 0 (fun _ => False) := by
  refine Met.ofW (cc := cX1_distanceNow) (maxL := 15) (ret := (some .long)) (by decide) rfl ?_
  intro pp ee s mm args below meth cc9 s₁ B hml hv
  obtain ⟨rfl, hPX⟩ := hv
  obtain ⟨hP, hK⟩ := id hPX
  have hx := B.exec
  have hb := B.bytes
  have hr := B.returns
  have hts := atoms_spec (ws := wsX1_distanceNow) B.pre
  have hown : s.vm.findClass RX1 = some mm.cls := findClass_of_methodNamed B.named
  have hlocks := B.notSynchronized
  have hin : ∀ w ∈ wsX10, w ∈ wsX1_distanceNow := fun w h => List.mem_cons_of_mem _ (List.mem_append_right _ h)
  have m169 : Cond.constantLong RX1 169 (2000000000) ∈ wsX1_distanceNow := by decide +kernel
  have m171 : Cond.constantLong RX1 171 (2) ∈ wsX1_distanceNow := by decide +kernel
  have hi_bl := iv_bl hI
  have hi_pg := iv_pg hI
  have hi_se := iv_se hI
  have hi_dr := iv_dr hI
  have hdq := dq_rng hI (a := a) (b := b) k0z k1z
  unfold df at hdq
  have hl := lv_entry ([.ref (gM g 0), .int (iI a), .int (iI b)]) (n := 15) (Nat.le_of_ble_eq_true rfl)
  rw [lg_entry_eq]
  generalize (lg_sl ([.ref (gM g 0), .int (iI a), .int (iI b)]) ++ List.replicate (15 - (lg_sl ([.ref (gM g 0), .int (iI a), .int (iI b)])).length) Slot.unset).toArray = ls at hl ⊢
  have hl : lv_has ls 15 [(0, .ref (gM g 0)), (1, .int (iI a)), (2, .int (iI b))] := hl
  refine lv_aload_n hx hb dX1_distanceNow_0 rfl (lv_at hl 0 rfl) ?_
  refine lv_iload_n hx hb dX1_distanceNow_1 rfl (lv_at hl 2 rfl) ?_
  refine z_iconst hx hb dX1_distanceNow_2 ?_
  refine zV_l (As := [.int (iI b), .int (iI 0)]) (rest := []) ⟨hx, hb, hml, hown, hts⟩ (PM g u v) (PM_blind g u v) (PM_mv hP hK) (rcM hK hP) (c_X1_corrected l g u v b 0 8 hI (by omega) (by omega) (by omega)) (cwV 2 hts gX1_distanceNow_X1_corrected rfl rfl rfl (by decide +kernel) ⟨Nat.le_of_ble_eq_true rfl, Nat.le_of_ble_eq_true rfl⟩) rfl hl.1 rfl (Nat.le_of_ble_eq_true rfl) dX1_distanceNow_3 ⟨Nat.zero_le _, Nat.zero_le _⟩ ?_
  refine lv_aload_n hx hb dX1_distanceNow_6 rfl (lv_at hl 0 rfl) ?_
  refine lv_iload_n hx hb dX1_distanceNow_7 rfl (lv_at hl 1 rfl) ?_
  refine z_iconst hx hb dX1_distanceNow_8 ?_
  refine zV_l (As := [.int (iI a), .int (iI 0)]) (rest := [.long (jI (co u 8 b))]) ⟨hx, hb, hml, hown, hts⟩ (PM g u v) (PM_blind g u v) (PM_mv hP hK) (rcM hK hP) (c_X1_corrected l g u v a 0 8 hI (by omega) (by omega) (by omega)) (cwV 2 hts gX1_distanceNow_X1_corrected rfl rfl rfl (by decide +kernel) ⟨Nat.le_of_ble_eq_true rfl, Nat.le_of_ble_eq_true rfl⟩) rfl hl.1 rfl (Nat.le_of_ble_eq_true rfl) dX1_distanceNow_9 ⟨Nat.zero_le _, Nat.zero_le _⟩ ?_
  refine z_lsub hx hb dX1_distanceNow_12 ?_
  refine lv_lstore_n (lv' := [(3, .long (jI ((co u 8 b) - (co u 8 a)))), (0, .ref (gM g 0)), (1, .int (iI a)), (2, .int (iI b))]) hx hb dX1_distanceNow_13 rfl hl (by decide) rfl (fun ls hl => ?_)
  refine lv_aload_n hx hb dX1_distanceNow_14 rfl (lv_at hl 1 rfl) ?_
  refine lv_iload_n hx hb dX1_distanceNow_15 rfl (lv_at hl 3 rfl) ?_
  refine z_iconst hx hb dX1_distanceNow_16 ?_
  refine zV_l (As := [.int (iI b), .int (iI 1)]) (rest := []) ⟨hx, hb, hml, hown, hts⟩ (PM g u v) (PM_blind g u v) (PM_mv hP hK) (rcM hK hP) (c_X1_corrected l g u v b 1 0 hI (by omega) (by omega) (by omega)) (cwV 2 hts gX1_distanceNow_X1_corrected rfl rfl rfl (by decide +kernel) ⟨Nat.le_of_ble_eq_true rfl, Nat.le_of_ble_eq_true rfl⟩) rfl hl.1 rfl (Nat.le_of_ble_eq_true rfl) dX1_distanceNow_17 ⟨Nat.zero_le _, Nat.zero_le _⟩ ?_
  refine lv_aload_n hx hb dX1_distanceNow_20 rfl (lv_at hl 1 rfl) ?_
  refine lv_iload_n hx hb dX1_distanceNow_21 rfl (lv_at hl 2 rfl) ?_
  refine z_iconst hx hb dX1_distanceNow_22 ?_
  refine zV_l (As := [.int (iI a), .int (iI 1)]) (rest := [.long (jI (co u 0 b))]) ⟨hx, hb, hml, hown, hts⟩ (PM g u v) (PM_blind g u v) (PM_mv hP hK) (rcM hK hP) (c_X1_corrected l g u v a 1 0 hI (by omega) (by omega) (by omega)) (cwV 2 hts gX1_distanceNow_X1_corrected rfl rfl rfl (by decide +kernel) ⟨Nat.le_of_ble_eq_true rfl, Nat.le_of_ble_eq_true rfl⟩) rfl hl.1 rfl (Nat.le_of_ble_eq_true rfl) dX1_distanceNow_23 ⟨Nat.zero_le _, Nat.zero_le _⟩ ?_
  refine z_lsub hx hb dX1_distanceNow_26 ?_
  refine lv_lstore (lv' := [(5, .long (jI ((co u 0 b) - (co u 0 a)))), (3, .long (jI ((co u 8 b) - (co u 8 a)))), (0, .ref (gM g 0)), (1, .int (iI a)), (2, .int (iI b))]) hx hb dX1_distanceNow_27 hl (by decide) rfl (fun ls hl => ?_)
  refine lv_lload_n hx hb dX1_distanceNow_29 rfl (lv_at hl 1 rfl) ?_
  refine lv_lload_n hx hb dX1_distanceNow_30 rfl (lv_at hl 1 rfl) ?_
  refine z_lmul hx hb dX1_distanceNow_31 ?_
  refine lv_lload hx hb dX1_distanceNow_32 (lv_at hl 0 rfl) ?_
  refine lv_lload hx hb dX1_distanceNow_34 (lv_at hl 0 rfl) ?_
  refine z_lmul hx hb dX1_distanceNow_36 ?_
  refine z_ladd hx hb dX1_distanceNow_37 ?_
  obtain ⟨q, hq⟩ : ∃ z9z : Int, z9z = (((co u 8 b) - (co u 8 a)) * ((co u 8 b) - (co u 8 a))) + (((co u 0 b) - (co u 0 a)) * ((co u 0 b) - (co u 0 a))) := ⟨_, rfl⟩
  rw [← hq]
  rw [← hq] at hdq
  refine lv_lstore (lv' := [(7, .long (jI q)), (5, .long (jI ((co u 0 b) - (co u 0 a)))), (3, .long (jI ((co u 8 b) - (co u 8 a)))), (0, .ref (gM g 0)), (1, .int (iI a)), (2, .int (iI b))]) hx hb dX1_distanceNow_38 hl (by decide) rfl (fun ls hl => ?_)
  refine z_lconst (z := 0) hx hb dX1_distanceNow_40 rfl ?_
  refine lv_lstore (lv' := [(9, .long (jI 0)), (7, .long (jI q)), (5, .long (jI ((co u 0 b) - (co u 0 a)))), (3, .long (jI ((co u 8 b) - (co u 8 a)))), (0, .ref (gM g 0)), (1, .int (iI a)), (2, .int (iI b))]) hx hb dX1_distanceNow_41 hl (by decide) rfl (fun ls hl => ?_)
  refine lv_ldc2 (v := jI (2000000000)) hx hb hown (hts _ m169) dX1_distanceNow_43 ?_
  refine lv_lstore (lv' := [(11, .long (jI 2000000000)), (9, .long (jI 0)), (7, .long (jI q)), (5, .long (jI ((co u 0 b) - (co u 0 a)))), (3, .long (jI ((co u 8 b) - (co u 8 a)))), (0, .ref (gM g 0)), (1, .int (iI a)), (2, .int (iI b))]) hx hb dX1_distanceNow_46 hl (by decide) rfl (fun ls hl => ?_)
  refine z_loop2 (nL := 15) (fun lo9 hi9 => (0 ≤ lo9 ∧ lo9 ≤ hi9 ∧ hi9 ≤ 2000000000) ∧ (lo9 * lo9 ≤ q) ∧ (q < (hi9 + 1) * (hi9 + 1))) (fun lo9 hi9 => (hi9 - lo9).toNat) (fun lo9 hi9 => [(0, .ref (gM g 0)), (1, .int (iI a)), (2, .int (iI b)), (3, .long (jI ((co u 8 b) - (co u 8 a)))), (5, .long (jI ((co u 0 b) - (co u 0 a)))), (7, .long (jI q)), (9, .long (jI lo9)), (11, .long (jI hi9))]) (fun lo9 hi9 ls hinv hl ih_48 => ?_) 0 2000000000 ls ⟨(by omega), (by omega), (by omega)⟩ (lv_sub hl [5, 6, 7, 4, 3, 2, 1, 0] rfl)
  have hinv : (0 ≤ lo9 ∧ lo9 ≤ hi9 ∧ hi9 ≤ 2000000000) ∧ (lo9 * lo9 ≤ q) ∧ (q < (hi9 + 1) * (hi9 + 1)) := hinv
  obtain ⟨d1z, d2z, d3z⟩ := hinv
  have hl : lv_has ls 15 [(0, .ref (gM g 0)), (1, .int (iI a)), (2, .int (iI b)), (3, .long (jI ((co u 8 b) - (co u 8 a)))), (5, .long (jI ((co u 0 b) - (co u 0 a)))), (7, .long (jI q)), (9, .long (jI lo9)), (11, .long (jI hi9))] := hl
  refine lv_lload hx hb dX1_distanceNow_48 (lv_at hl 6 rfl) ?_
  refine lv_lload hx hb dX1_distanceNow_50 (lv_at hl 7 rfl) ?_
  refine z_lcmp_ge (tgt := 96) hx hb dX1_distanceNow_52 dX1_distanceNow_53 (by decide) (by omega) (by omega) (fun c_1 => ?_) (fun c_1 => ?_)
  · refine lv_lload hx hb dX1_distanceNow_96 (lv_at hl 6 rfl) ?_
    exact zr_l hx hb hr hlocks dX1_distanceNow_98 (((congrArg isq hq.symm).trans (isq_one (s := q) (r := lo9) (by omega) d1z.1 d2z (by rw [show lo9 = hi9 by omega]; exact d3z))).symm)
  · refine lv_lload hx hb dX1_distanceNow_56 (lv_at hl 6 rfl) ?_
    refine lv_lload hx hb dX1_distanceNow_58 (lv_at hl 7 rfl) ?_
    refine z_ladd hx hb dX1_distanceNow_60 ?_
    refine z_lconst (z := 1) hx hb dX1_distanceNow_61 rfl ?_
    refine z_ladd hx hb dX1_distanceNow_62 ?_
    refine lv_ldc2 (v := jI (2)) hx hb hown (hts _ m171) dX1_distanceNow_63 ?_
    refine z_ldiv hx hb (by omega) ⟨by decide, by decide⟩ dX1_distanceNow_66 ?_
    obtain ⟨mid, hmid⟩ : ∃ z9z : Int, z9z = Int.tdiv ((lo9 + hi9) + 1) 2 := ⟨_, rfl⟩
    rw [← hmid]
    have hm9 : Int.tdiv (lo9 + hi9 + 1) 2 = (lo9 + hi9 + 1) / 2 := Int.tdiv_eq_ediv_of_nonneg (by omega)
    have hmm := sq_rng (a := mid) (A := 2000000000) (by omega)
    refine lv_lstore (lv' := [(13, .long (jI mid)), (0, .ref (gM g 0)), (1, .int (iI a)), (2, .int (iI b)), (3, .long (jI ((co u 8 b) - (co u 8 a)))), (5, .long (jI ((co u 0 b) - (co u 0 a)))), (7, .long (jI q)), (9, .long (jI lo9)), (11, .long (jI hi9))]) hx hb dX1_distanceNow_67 hl (by decide) rfl (fun ls hl => ?_)
    refine lv_lload hx hb dX1_distanceNow_69 (lv_at hl 0 rfl) ?_
    refine lv_lload hx hb dX1_distanceNow_71 (lv_at hl 0 rfl) ?_
    refine z_lmul hx hb dX1_distanceNow_73 ?_
    refine lv_lload hx hb dX1_distanceNow_74 (lv_at hl 6 rfl) ?_
    refine z_lcmp_gt (tgt := 87) hx hb dX1_distanceNow_76 dX1_distanceNow_77 (by decide) (by omega) (by omega) (fun c_2 => ?_) (fun c_2 => ?_)
    · refine lv_lload hx hb dX1_distanceNow_87 (lv_at hl 0 rfl) ?_
      refine z_lconst (z := 1) hx hb dX1_distanceNow_89 rfl ?_
      refine z_lsub hx hb dX1_distanceNow_90 ?_
      refine lv_lstore (lv' := [(11, .long (jI (mid - 1))), (13, .long (jI mid)), (0, .ref (gM g 0)), (1, .int (iI a)), (2, .int (iI b)), (3, .long (jI ((co u 8 b) - (co u 8 a)))), (5, .long (jI ((co u 0 b) - (co u 0 a)))), (7, .long (jI q)), (9, .long (jI lo9))]) hx hb dX1_distanceNow_91 hl (by decide) rfl (fun ls hl => ?_)
      refine lv_goto (tgt := 48) hx hb dX1_distanceNow_93 (by decide) ?_
      exact ih_48 lo9 (mid - 1) ls ⟨(by omega), (by omega), (by first | omega | (rw [Int.sub_add_cancel]; omega))⟩ (show ((mid - 1) - lo9).toNat < (hi9 - lo9).toNat by omega) (lv_sub hl [2, 3, 4, 5, 6, 7, 8, 0] rfl)
    · refine lv_lload hx hb dX1_distanceNow_80 (lv_at hl 0 rfl) ?_
      refine lv_lstore (lv' := [(9, .long (jI mid)), (13, .long (jI mid)), (0, .ref (gM g 0)), (1, .int (iI a)), (2, .int (iI b)), (3, .long (jI ((co u 8 b) - (co u 8 a)))), (5, .long (jI ((co u 0 b) - (co u 0 a)))), (7, .long (jI q)), (11, .long (jI hi9))]) hx hb dX1_distanceNow_82 hl (by decide) rfl (fun ls hl => ?_)
      refine lv_goto (tgt := 93) hx hb dX1_distanceNow_84 (by decide) ?_
      refine lv_goto (tgt := 48) hx hb dX1_distanceNow_93 (by decide) ?_
      exact ih_48 mid hi9 ls ⟨(by omega), (by omega), (by first | omega | (rw [Int.sub_add_cancel]; omega))⟩ (show (hi9 - mid).toNat < (hi9 - lo9).toNat by omega) (lv_sub hl [2, 3, 4, 5, 6, 7, 0, 8] rfl)
