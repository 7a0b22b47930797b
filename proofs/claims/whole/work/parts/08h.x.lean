/-! the class, by program (genx.py): X0_findLost X0_mix X0_mixPegs X0_mixMoments X0_mixBuffer X0_digest -/
set_option maxHeartbeats 4000000 in
set_option maxRecDepth 100000 in
theorem c_X0_findLost (l : Launch) (g : GG) (u : ST) (k : Int) (hI : Inv u) (hb_k : B32 k) : Met l yX0_findLost wsX0_findLost (k2_rm 4 101) (va_Pc [.ref (gX g 0), .int (iI k)] (fun U => PX g u U U.heap)) (vp_Sl (fun r => r = jI (fdR u k))) 0 0 (fun _ => False) := by
  refine Met.ofW (cc := cX0_findLost) (maxL := 4) (ret := (some .long)) (by decide) rfl ?_
  intro pp ee s mm args below meth cc9 s₁ B hml hv
  obtain ⟨rfl, hPX⟩ := hv
  obtain ⟨hP, hK, hZS⟩ := id hPX
  have hx := B.exec
  have hb := B.bytes
  have hr := B.returns
  have hts := atoms_spec (ws := wsX0_findLost) B.pre
  have hown : s.vm.findClass RX0 = some mm.cls := findClass_of_methodNamed B.named
  have hlocks := B.notSynchronized
  have hin : ∀ w ∈ wsX00, w ∈ wsX0_findLost := fun w h => List.mem_cons_of_mem _ (List.mem_append_right _ h)
  have m102 : Cond.constantLong RX0 102 (-9000000000000000002) ∈ wsX0_findLost := by decide +kernel
  have m108 : Cond.constantLong RX0 108 (-9000000000000000007) ∈ wsX0_findLost := by decide +kernel
  have m110 : Cond.constantLong RX0 110 (-9000000000000000006) ∈ wsX0_findLost := by decide +kernel
  have m19 : Cond.fieldLink RX0 19 "TraverseBoard" "leeways" "[I" ∈ wsX0_findLost := by decide +kernel
  have m22 : Cond.fieldLink RX0 22 "TraverseBoard" "lost" "[Z" ∈ wsX0_findLost := by decide +kernel
  have hS0 : va_S nA s.heap s.heap [] := va_S.rf
  have hi_bl := iv_bl hI
  have hi_pg := iv_pg hI
  have hi_se := iv_se hI
  have hi_dr := iv_dr hI
  have hl := lv_entry ([.ref (gX g 0), .int (iI k)]) (n := 4) (Nat.le_of_ble_eq_true rfl)
  rw [lg_entry_eq]
  generalize (lg_sl ([.ref (gX g 0), .int (iI k)]) ++ List.replicate (4 - (lg_sl ([.ref (gX g 0), .int (iI k)])).length) Slot.unset).toArray = ls at hl ⊢
  have hl : lv_has ls 4 [(0, .ref (gX g 0)), (1, .int (iI k))] := hl
  refine lv_aload_n hx hb dX0_findLost_0 rfl (lv_at hl 0 rfl) ?_
  refine lv_iload_n hx hb dX0_findLost_1 rfl (lv_at hl 1 rfl) ?_
  refine zV_z (As := [.int (iI k)]) (rest := []) ⟨hx, hb, hml, hown, hts⟩ (PY g u) (PY_blind g u) (PY_mv hP hK) (rcX hK hP) (c_X0_pegExists l g u k hI (by omega)) (cwV 1 hts gX0_findLost_X0_pegExists rfl rfl rfl (by decide +kernel) ⟨Nat.le_of_ble_eq_true rfl, Nat.le_of_ble_eq_true rfl⟩) rfl hl.1 rfl (Nat.le_of_ble_eq_true rfl) dX0_findLost_2 ⟨Nat.zero_le _, Nat.zero_le _⟩ (fun c_1 => ?_) (fun c_1 => ?_)
  · refine z_if_ne (tgt := 12) hx hb dX0_findLost_5 (by decide) ⟨by decide, by decide⟩ (fun c_2 => ?_) (fun c_2 => (absurd c_2 (by decide)))
    refine lv_aload_n hx hb dX0_findLost_12 rfl (lv_at hl 0 rfl) ?_
    refine gf_X0_22 hx hb hts hin m22 hown hK hP dX0_findLost_13 ?_
    refine lv_iload_n hx hb dX0_findLost_16 rfl (lv_at hl 1 rfl) ?_
    refine al_X0_5 hx hb hK hP ⟨by omega, by omega⟩ dX0_findLost_17 ?_
    have hv_3 := iv_lo hI k
    refine z_if_ne (tgt := 25) hx hb dX0_findLost_18 (by decide) (by omega) (fun c_4 => ?_) (fun c_4 => ?_)
    · have hla := la_rng u (m := k) (by omega)
      have hnf := nf_rng u k
      refine lv_aload_n hx hb dX0_findLost_25 rfl (lv_at hl 0 rfl) ?_
      refine lv_iload_n hx hb dX0_findLost_26 rfl (lv_at hl 1 rfl) ?_
      refine zV_i (As := [.int (iI k)]) (rest := []) ⟨hx, hb, hml, hown, hts⟩ (PY g u) (PY_blind g u) (PY_mv hP hK) (rcX hK hP) (c_X0_lastFix l g u k hI (by omega) (by omega)) (cwV 1 hts gX0_findLost_X0_lastFix rfl rfl rfl (by decide +kernel) ⟨Nat.le_of_ble_eq_true rfl, Nat.le_of_ble_eq_true rfl⟩) rfl hl.1 rfl (Nat.le_of_ble_eq_true rfl) dX0_findLost_27 ⟨Nat.zero_le _, Nat.zero_le _⟩ ?_
      refine lv_istore_n (lv' := [(2, .int (iI (la u k))), (0, .ref (gX g 0)), (1, .int (iI k))]) hx hb dX0_findLost_30 rfl hl (by decide) rfl (fun ls hl => ?_)
      refine lv_aload_n hx hb dX0_findLost_31 rfl (lv_at hl 1 rfl) ?_
      refine lv_iload_n hx hb dX0_findLost_32 rfl (lv_at hl 2 rfl) ?_
      refine zV_i (As := [.int (iI k)]) (rest := []) ⟨hx, hb, hml, hown, hts⟩ (PY g u) (PY_blind g u) (PY_mv hP hK) (rcX hK hP) (c_X0_firstFixAfter l g u k hI (by omega) (by omega)) (cwV 1 hts gX0_findLost_X0_firstFixAfter rfl rfl rfl (by decide +kernel) ⟨Nat.le_of_ble_eq_true rfl, Nat.le_of_ble_eq_true rfl⟩) rfl hl.1 rfl (Nat.le_of_ble_eq_true rfl) dX0_findLost_33 ⟨Nat.zero_le _, Nat.zero_le _⟩ ?_
      refine lv_istore_n (lv' := [(3, .int (iI (nf u k))), (2, .int (iI (la u k))), (0, .ref (gX g 0)), (1, .int (iI k))]) hx hb dX0_findLost_36 rfl hl (by decide) rfl (fun ls hl => ?_)
      refine lv_iload_n hx hb dX0_findLost_37 rfl (lv_at hl 0 rfl) ?_
      refine z_iconst hx hb dX0_findLost_38 ?_
      refine z_icmp_ne (tgt := 46) hx hb dX0_findLost_39 (by decide) (by omega) ⟨by decide, by decide⟩ (fun c_5 => ?_) (fun c_5 => ?_)
      · have hsz := sz01 (f := zlo u) (iv_lo hI) (a := la u k) (b := nf u k) (by omega)
        have he8 := er_rng hI 8 (a := la u k) (b := nf u k) (by omega)
        have he0 := er_rng hI 0 (a := la u k) (b := nf u k) (by omega)
        refine lv_aload_n hx hb dX0_findLost_46 rfl (lv_at hl 2 rfl) ?_
        refine lv_iload_n hx hb dX0_findLost_47 rfl (lv_at hl 1 rfl) ?_
        refine lv_iload_n hx hb dX0_findLost_48 rfl (lv_at hl 0 rfl) ?_
        refine zV_i (As := [.int (iI (la u k)), .int (iI (nf u k))]) (rest := []) ⟨hx, hb, hml, hown, hts⟩ (PY g u) (PY_blind g u) (PY_mv hP hK) (rcX hK hP) (c_X0_lostCount l g u (la u k) (nf u k) hI (by omega) (by omega) (by omega)) (cwV 2 hts gX0_findLost_X0_lostCount rfl rfl rfl (by decide +kernel) ⟨Nat.le_of_ble_eq_true rfl, Nat.le_of_ble_eq_true rfl⟩) rfl hl.1 rfl (Nat.le_of_ble_eq_true rfl) dX0_findLost_49 ⟨Nat.zero_le _, Nat.zero_le _⟩ ?_
        refine z_iconst hx hb dX0_findLost_52 ?_
        refine z_icmp_le (tgt := 60) hx hb dX0_findLost_53 (by decide) (by omega) ⟨by decide, by decide⟩ (fun c_6 => ?_) (fun c_6 => ?_)
        · refine lv_aload_n hx hb dX0_findLost_60 rfl (lv_at hl 2 rfl) ?_
          refine lv_iload_n hx hb dX0_findLost_61 rfl (lv_at hl 1 rfl) ?_
          refine lv_iload_n hx hb dX0_findLost_62 rfl (lv_at hl 0 rfl) ?_
          refine z_bipush hx hb dX0_findLost_63 (by decide +kernel) ?_
          refine zV_l (As := [.int (iI (la u k)), .int (iI (nf u k)), .int (iI 8)]) (rest := []) ⟨hx, hb, hml, hown, hts⟩ (PX g u) (PX_blind g u) (PX_mv hPX) (rcX hK hP) (c_X0_error l g u (la u k) (nf u k) 8 hI (by omega) (by omega) (by omega) (by omega)) (cwV 3 hts gX0_findLost_X0_error rfl rfl rfl (by decide +kernel) ⟨Nat.le_of_ble_eq_true rfl, Nat.le_of_ble_eq_true rfl⟩) rfl hl.1 rfl (Nat.le_of_ble_eq_true rfl) dX0_findLost_65 ⟨Nat.zero_le _, Nat.zero_le _⟩ ?_
          refine lv_aload_n hx hb dX0_findLost_68 rfl (lv_at hl 2 rfl) ?_
          refine lv_iload_n hx hb dX0_findLost_69 rfl (lv_at hl 1 rfl) ?_
          refine lv_iload_n hx hb dX0_findLost_70 rfl (lv_at hl 0 rfl) ?_
          refine z_iconst hx hb dX0_findLost_71 ?_
          refine zV_l (As := [.int (iI (la u k)), .int (iI (nf u k)), .int (iI 0)]) (rest := [.long (jI (er u 8 (la u k) (nf u k)))]) ⟨hx, hb, hml, hown, hts⟩ (PX g u) (PX_blind g u) (PX_mv hPX) (rcX hK hP) (c_X0_error l g u (la u k) (nf u k) 0 hI (by omega) (by omega) (by omega) (by omega)) (cwV 3 hts gX0_findLost_X0_error rfl rfl rfl (by decide +kernel) ⟨Nat.le_of_ble_eq_true rfl, Nat.le_of_ble_eq_true rfl⟩) rfl hl.1 rfl (Nat.le_of_ble_eq_true rfl) dX0_findLost_72 ⟨Nat.zero_le _, Nat.zero_le _⟩ ?_
          refine lv_aload_n hx hb dX0_findLost_75 rfl (lv_at hl 2 rfl) ?_
          refine gf_X0_19 hx hb hts hin m19 hown hK hP dX0_findLost_76 ?_
          refine lv_iload_n hx hb dX0_findLost_79 rfl (lv_at hl 3 rfl) ?_
          refine al_X0_4 hx hb hK hP ⟨by omega, by omega⟩ dX0_findLost_80 ?_
          have hv_7 := iv_le hI k
          refine zS_l (As := [.long (jI (er u 8 (la u k) (nf u k))), .long (jI (er u 0 (la u k) (nf u k))), .int (iI (zle u k))]) (rest := []) ⟨hx, hb, hml, hown, hts⟩ (PZ g) (PZ_blind g) (PZ_mv hZS)  (c_X0_likeliest l g (er u 8 (la u k) (nf u k)) (er u 0 (la u k) (nf u k)) (zle u k) (by omega) (by omega) (by omega)) (va_cwS 3 hts gX0_findLost_X0_likeliest rfl rfl rfl (by decide +kernel) ⟨Nat.le_of_ble_eq_true rfl, Nat.le_of_ble_eq_true rfl⟩) rfl hl.1 rfl (Nat.le_of_ble_eq_true rfl) dX0_findLost_81 ⟨Nat.zero_le _, Nat.zero_le _⟩ ?_
          exact zr_l hx hb hr hlocks dX0_findLost_84 (by unfold fdR fdl eNP eWS eNO; (repeat' split) <;> first | (exfalso; omega) | rfl)
        · refine lv_ldc2 (v := jI (-9000000000000000006)) hx hb hown (hts _ m110) dX0_findLost_56 ?_
          exact zr_l hx hb hr hlocks dX0_findLost_59 (by unfold fdR fdl eNP eWS eNO; (repeat' split) <;> first | (exfalso; omega) | rfl)
      · refine lv_ldc2 (v := jI (-9000000000000000007)) hx hb hown (hts _ m108) dX0_findLost_42 ?_
        exact zr_l hx hb hr hlocks dX0_findLost_45 (by unfold fdR fdl eNP eWS eNO; (repeat' split) <;> first | (exfalso; omega) | rfl)
    · refine lv_ldc2 (v := jI (-9000000000000000006)) hx hb hown (hts _ m110) dX0_findLost_21 ?_
      exact zr_l hx hb hr hlocks dX0_findLost_24 (by unfold fdR fdl eNP eWS eNO; (repeat' split) <;> first | (exfalso; omega) | rfl)
  · refine z_if_ne (tgt := 12) hx hb dX0_findLost_5 (by decide) ⟨by decide, by decide⟩ (fun c_8 => (absurd c_8 (by decide))) (fun c_8 => ?_)
    refine lv_ldc2 (v := jI (-9000000000000000002)) hx hb hown (hts _ m102) dX0_findLost_8 ?_
    exact zr_l hx hb hr hlocks dX0_findLost_11 (by unfold fdR fdl eNP eWS eNO; (repeat' split) <;> first | (exfalso; omega) | rfl)
set_option maxHeartbeats 4000000 in
set_option maxRecDepth 100000 in
theorem c_X0_mix (l : Launch) (g : GG) (h : Int) (w : Int) : Met l yX0_mix wsX0_mix (k2_rm 0 0) (va_Pc [.long (jI h), .long (jI w)] (fun U => PT U U.heap)) (vp_Sl (fun r => r = jI (mx h w))) 0 0 (fun _ => False) := by
  refine Met.ofW (cc := cX0_mix) (maxL := 4) (ret := (some .long)) (by decide) rfl ?_
  intro pp ee s mm args below meth cc9 s₁ B hml hv
  obtain ⟨rfl, hPX⟩ := hv
  have hx := B.exec
  have hb := B.bytes
  have hr := B.returns
  have hts := atoms_spec (ws := wsX0_mix) B.pre
  have hown : s.vm.findClass RX0 = some mm.cls := findClass_of_methodNamed B.named
  have hlocks := B.notSynchronized
  have m235 : Cond.constantLong RX0 235 (31) ∈ wsX0_mix := by decide +kernel
  have hl := lv_entry ([.long (jI h), .long (jI w)]) (n := 4) (Nat.le_of_ble_eq_true rfl)
  rw [lg_entry_eq]
  generalize (lg_sl ([.long (jI h), .long (jI w)]) ++ List.replicate (4 - (lg_sl ([.long (jI h), .long (jI w)])).length) Slot.unset).toArray = ls at hl ⊢
  have hl : lv_has ls 4 [(0, .long (jI h)), (2, .long (jI w))] := hl
  refine lv_ldc2 (v := jI (31)) hx hb hown (hts _ m235) dX0_mix_0 ?_
  refine lv_lload_n hx hb dX0_mix_3 rfl (lv_at hl 0 rfl) ?_
  refine z_lmul hx hb dX0_mix_4 ?_
  refine lv_lload_n hx hb dX0_mix_5 rfl (lv_at hl 1 rfl) ?_
  refine z_ladd hx hb dX0_mix_6 ?_
  exact zr_l hx hb hr hlocks dX0_mix_7 (by first | rfl | omega)
set_option maxHeartbeats 4000000 in
set_option maxRecDepth 100000 in
theorem c_X0_mixPegs (l : Launch) (g : GG) (u : ST) (h : Int) (hI : Inv u) : Met l yX0_mixPegs wsX0_mixPegs (k2_rm 3 64) (va_Pc [.ref (gX g 0), .long (jI h)] (fun U => PY g u U U.heap)) (vp_Sl (fun r => r = jI (dgp u h (zpg u)))) 0 0 (fun _ => False) := by
  refine Met.ofW (cc := cX0_mixPegs) (maxL := 6) (ret := (some .long)) (by decide) rfl ?_
  intro pp ee s mm args below meth cc9 s₁ B hml hv
  obtain ⟨rfl, hPX⟩ := hv
  obtain ⟨hP, hK⟩ := id hPX
  have hx := B.exec
  have hb := B.bytes
  have hr := B.returns
  have hts := atoms_spec (ws := wsX0_mixPegs) B.pre
  have hown : s.vm.findClass RX0 = some mm.cls := findClass_of_methodNamed B.named
  have hlocks := B.notSynchronized
  have hin : ∀ w ∈ wsX00, w ∈ wsX0_mixPegs := fun w h => List.mem_cons_of_mem _ (List.mem_append_right _ h)
  have m19 : Cond.fieldLink RX0 19 "TraverseBoard" "leeways" "[I" ∈ wsX0_mixPegs := by decide +kernel
  have m71 : Cond.fieldLink RX0 71 "TraverseBoard" "pegs" "I" ∈ wsX0_mixPegs := by decide +kernel
  have hi_bl := iv_bl hI
  have hi_pg := iv_pg hI
  have hi_se := iv_se hI
  have hi_dr := iv_dr hI
  have hl := lv_entry ([.ref (gX g 0), .long (jI h)]) (n := 6) (Nat.le_of_ble_eq_true rfl)
  rw [lg_entry_eq]
  generalize (lg_sl ([.ref (gX g 0), .long (jI h)]) ++ List.replicate (6 - (lg_sl ([.ref (gX g 0), .long (jI h)])).length) Slot.unset).toArray = ls at hl ⊢
  have hl : lv_has ls 6 [(0, .ref (gX g 0)), (1, .long (jI h))] := hl
  refine lv_lload_n hx hb dX0_mixPegs_0 rfl (lv_at hl 1 rfl) ?_
  refine lv_lstore_n (lv' := [(3, .long (jI h)), (0, .ref (gX g 0)), (1, .long (jI h))]) hx hb dX0_mixPegs_1 rfl hl (by decide) rfl (fun ls hl => ?_)
  refine z_iconst hx hb dX0_mixPegs_2 ?_
  refine lv_istore (lv' := [(5, .int (iI 0)), (3, .long (jI h)), (0, .ref (gX g 0)), (1, .long (jI h))]) hx hb dX0_mixPegs_3 hl (by decide) rfl (fun ls hl => ?_)
  refine z_loop2 (nL := 6) (fun x t => (0 ≤ t ∧ t ≤ zpg u) ∧ (x = dgp u h t)) (fun x t => (zpg u - t).toNat) (fun x t => [(0, .ref (gX g 0)), (1, .long (jI h)), (3, .long (jI x)), (5, .int (iI t))]) (fun x t ls hinv hl ih_5 => ?_) h 0 ls ⟨(by omega), (by exact (dgp_0 (Int.le_refl _)).symm)⟩ (lv_sub hl [2, 3, 1, 0] rfl)
  have hinv : (0 ≤ t ∧ t ≤ zpg u) ∧ (x = dgp u h t) := hinv
  obtain ⟨q1z, q3z⟩ := hinv
  have hl : lv_has ls 6 [(0, .ref (gX g 0)), (1, .long (jI h)), (3, .long (jI x)), (5, .int (iI t))] := hl
  have ep9 : poR u t = ptc u t ∨ t = zpg u := by unfold poR; split <;> omega
  have es9 : spR u t = spc u t ∨ t = zpg u := by unfold spR; split <;> omega
  refine lv_iload hx hb dX0_mixPegs_5 (lv_at hl 3 rfl) ?_
  refine lv_aload_n hx hb dX0_mixPegs_7 rfl (lv_at hl 0 rfl) ?_
  refine gf_X0_71 (z := zpg u) hx hb hts hin m71 hown hK hP rfl dX0_mixPegs_8 ?_
  refine z_icmp_ge (tgt := 55) hx hb dX0_mixPegs_11 (by decide) (by omega) (by omega) (fun c_1 => ?_) (fun c_1 => ?_)
  · refine lv_lload_n hx hb dX0_mixPegs_55 rfl (lv_at hl 2 rfl) ?_
    exact zr_l hx hb hr hlocks dX0_mixPegs_56 (by rw [q3z, show t = zpg u by omega])
  · refine lv_lload_n hx hb dX0_mixPegs_14 rfl (lv_at hl 2 rfl) ?_
    refine lv_aload_n hx hb dX0_mixPegs_15 rfl (lv_at hl 0 rfl) ?_
    refine lv_iload hx hb dX0_mixPegs_16 (lv_at hl 3 rfl) ?_
    refine zV_l (As := [.int (iI t)]) (rest := [.long (jI x)]) ⟨hx, hb, hml, hown, hts⟩ (PY g u) (PY_blind g u) (PY_mv hP hK) (rcX hK hP) (c_X0_pointOf l g u t hI (by omega)) (cwV 1 hts gX0_mixPegs_X0_pointOf rfl rfl rfl (by decide +kernel) ⟨Nat.le_of_ble_eq_true rfl, Nat.le_of_ble_eq_true rfl⟩) rfl hl.1 rfl (Nat.le_of_ble_eq_true rfl) dX0_mixPegs_18 ⟨Nat.zero_le _, Nat.zero_le _⟩ ?_
    refine zS_l (As := [.long (jI x), .long (jI (poR u t))]) (rest := []) ⟨hx, hb, hml, hown, hts⟩ (PT) PT_blind PT_mv  (c_X0_mix l g x (poR u t)) (va_cwS 2 hts gX0_mixPegs_X0_mix rfl rfl rfl (by decide +kernel) ⟨Nat.le_of_ble_eq_true rfl, Nat.le_of_ble_eq_true rfl⟩) rfl hl.1 rfl (Nat.le_of_ble_eq_true rfl) dX0_mixPegs_21 ⟨Nat.zero_le _, Nat.zero_le _⟩ ?_
    refine lv_lstore_n (lv' := [(3, .long (jI (mx x (poR u t)))), (0, .ref (gX g 0)), (1, .long (jI h)), (5, .int (iI t))]) hx hb dX0_mixPegs_24 rfl hl (by decide) rfl (fun ls hl => ?_)
    refine lv_lload_n hx hb dX0_mixPegs_25 rfl (lv_at hl 0 rfl) ?_
    refine lv_aload_n hx hb dX0_mixPegs_26 rfl (lv_at hl 1 rfl) ?_
    refine lv_iload hx hb dX0_mixPegs_27 (lv_at hl 3 rfl) ?_
    refine zV_l (As := [.int (iI t)]) (rest := [.long (jI (mx x (poR u t)))]) ⟨hx, hb, hml, hown, hts⟩ (PY g u) (PY_blind g u) (PY_mv hP hK) (rcX hK hP) (c_X0_speedOf l g u t hI (by omega)) (cwV 1 hts gX0_mixPegs_X0_speedOf rfl rfl rfl (by decide +kernel) ⟨Nat.le_of_ble_eq_true rfl, Nat.le_of_ble_eq_true rfl⟩) rfl hl.1 rfl (Nat.le_of_ble_eq_true rfl) dX0_mixPegs_29 ⟨Nat.zero_le _, Nat.zero_le _⟩ ?_
    refine zS_l (As := [.long (jI (mx x (poR u t))), .long (jI (spR u t))]) (rest := []) ⟨hx, hb, hml, hown, hts⟩ (PT) PT_blind PT_mv  (c_X0_mix l g (mx x (poR u t)) (spR u t)) (va_cwS 2 hts gX0_mixPegs_X0_mix rfl rfl rfl (by decide +kernel) ⟨Nat.le_of_ble_eq_true rfl, Nat.le_of_ble_eq_true rfl⟩) rfl hl.1 rfl (Nat.le_of_ble_eq_true rfl) dX0_mixPegs_32 ⟨Nat.zero_le _, Nat.zero_le _⟩ ?_
    refine lv_lstore_n (lv' := [(3, .long (jI (mx (mx x (poR u t)) (spR u t)))), (0, .ref (gX g 0)), (1, .long (jI h)), (5, .int (iI t))]) hx hb dX0_mixPegs_35 rfl hl (by decide) rfl (fun ls hl => ?_)
    refine lv_lload_n hx hb dX0_mixPegs_36 rfl (lv_at hl 0 rfl) ?_
    refine lv_aload_n hx hb dX0_mixPegs_37 rfl (lv_at hl 1 rfl) ?_
    refine gf_X0_19 hx hb hts hin m19 hown hK hP dX0_mixPegs_38 ?_
    refine lv_iload hx hb dX0_mixPegs_41 (lv_at hl 3 rfl) ?_
    refine al_X0_4 hx hb hK hP ⟨by omega, by omega⟩ dX0_mixPegs_43 ?_
    have hv_2 := iv_le hI t
    refine z_i2l hx hb (by omega) dX0_mixPegs_44 ?_
    refine zS_l (As := [.long (jI (mx (mx x (poR u t)) (spR u t))), .long (jI (zle u t))]) (rest := []) ⟨hx, hb, hml, hown, hts⟩ (PT) PT_blind PT_mv  (c_X0_mix l g (mx (mx x (poR u t)) (spR u t)) (zle u t)) (va_cwS 2 hts gX0_mixPegs_X0_mix rfl rfl rfl (by decide +kernel) ⟨Nat.le_of_ble_eq_true rfl, Nat.le_of_ble_eq_true rfl⟩) rfl hl.1 rfl (Nat.le_of_ble_eq_true rfl) dX0_mixPegs_45 ⟨Nat.zero_le _, Nat.zero_le _⟩ ?_
    refine lv_lstore_n (lv' := [(3, .long (jI (mx (mx (mx x (poR u t)) (spR u t)) (zle u t)))), (0, .ref (gX g 0)), (1, .long (jI h)), (5, .int (iI t))]) hx hb dX0_mixPegs_48 rfl hl (by decide) rfl (fun ls hl => ?_)
    refine z_iinc (k := 3) (lv' := [(5, .int (iI (t + 1))), (3, .long (jI (mx (mx (mx x (poR u t)) (spR u t)) (zle u t)))), (0, .ref (gX g 0)), (1, .long (jI h))]) hx hb dX0_mixPegs_49 hl rfl (by decide) rfl (fun ls hl => ?_)
    refine lv_goto (tgt := 5) hx hb dX0_mixPegs_52 (by decide) ?_
    exact ih_5 (mx (mx (mx x (poR u t)) (spR u t)) (zle u t)) (t + 1) ls ⟨(by omega), (by rw [dgp_s q1z.1, ← q3z, ep9.resolve_right (by omega), es9.resolve_right (by omega)])⟩ (show (zpg u - (t + 1)).toNat < (zpg u - t).toNat by omega) (lv_sub hl [2, 3, 1, 0] rfl)
set_option maxHeartbeats 4000000 in
set_option maxRecDepth 100000 in
theorem c_X0_mixMoments (l : Launch) (g : GG) (u : ST) (h : Int) (hI : Inv u) : Met l yX0_mixMoments wsX0_mixMoments (k2_rm 5 117) (va_Pc [.ref (gX g 0), .long (jI h)] (fun U => PX g u U U.heap)) (vp_Sl (fun r => r = jI (dgm u h (zpg u + 1)))) 0 0 (fun _ => False) := by
  refine Met.ofW (cc := cX0_mixMoments) (maxL := 6) (ret := (some .long)) (by decide) rfl ?_
  intro pp ee s mm args below meth cc9 s₁ B hml hv
  obtain ⟨rfl, hPX⟩ := hv
  obtain ⟨hP, hK, hZS⟩ := id hPX
  have hx := B.exec
  have hb := B.bytes
  have hr := B.returns
  have hts := atoms_spec (ws := wsX0_mixMoments) B.pre
  have hown : s.vm.findClass RX0 = some mm.cls := findClass_of_methodNamed B.named
  have hlocks := B.notSynchronized
  have hin : ∀ w ∈ wsX00, w ∈ wsX0_mixMoments := fun w h => List.mem_cons_of_mem _ (List.mem_append_right _ h)
  have m26 : Cond.fieldLink RX0 26 "TraverseBoard" "fixed" "[Z" ∈ wsX0_mixMoments := by decide +kernel
  have m71 : Cond.fieldLink RX0 71 "TraverseBoard" "pegs" "I" ∈ wsX0_mixMoments := by decide +kernel
  have hS0 : va_S nA s.heap s.heap [] := va_S.rf
  have hi_bl := iv_bl hI
  have hi_pg := iv_pg hI
  have hi_se := iv_se hI
  have hi_dr := iv_dr hI
  have hl := lv_entry ([.ref (gX g 0), .long (jI h)]) (n := 6) (Nat.le_of_ble_eq_true rfl)
  rw [lg_entry_eq]
  generalize (lg_sl ([.ref (gX g 0), .long (jI h)]) ++ List.replicate (6 - (lg_sl ([.ref (gX g 0), .long (jI h)])).length) Slot.unset).toArray = ls at hl ⊢
  have hl : lv_has ls 6 [(0, .ref (gX g 0)), (1, .long (jI h))] := hl
  refine lv_lload_n hx hb dX0_mixMoments_0 rfl (lv_at hl 1 rfl) ?_
  refine lv_lstore_n (lv' := [(3, .long (jI h)), (0, .ref (gX g 0)), (1, .long (jI h))]) hx hb dX0_mixMoments_1 rfl hl (by decide) rfl (fun ls hl => ?_)
  refine z_iconst hx hb dX0_mixMoments_2 ?_
  refine lv_istore (lv' := [(5, .int (iI 0)), (3, .long (jI h)), (0, .ref (gX g 0)), (1, .long (jI h))]) hx hb dX0_mixMoments_3 hl (by decide) rfl (fun ls hl => ?_)
  refine z_loop2 (nL := 6) (fun x t => (0 ≤ t ∧ t ≤ zpg u + 1) ∧ (x = dgm u h t)) (fun x t => (zpg u + 1 - t).toNat) (fun x t => [(0, .ref (gX g 0)), (1, .long (jI h)), (3, .long (jI x)), (5, .int (iI t))]) (fun x t ls hinv hl ih_5 => ?_) h 0 ls ⟨(by omega), (by exact (dgm_0 (Int.le_refl _)).symm)⟩ (lv_sub hl [2, 3, 1, 0] rfl)
  have hinv : (0 ≤ t ∧ t ≤ zpg u + 1) ∧ (x = dgm u h t) := hinv
  obtain ⟨q1z, q3z⟩ := hinv
  have hl : lv_has ls 6 [(0, .ref (gX g 0)), (1, .long (jI h)), (3, .long (jI x)), (5, .int (iI t))] := hl
  have hl9 := iv_fx hI t
  refine lv_iload hx hb dX0_mixMoments_5 (lv_at hl 3 rfl) ?_
  refine lv_aload_n hx hb dX0_mixMoments_7 rfl (lv_at hl 0 rfl) ?_
  refine gf_X0_71 (z := zpg u) hx hb hts hin m71 hown hK hP rfl dX0_mixMoments_8 ?_
  refine z_icmp_gt (tgt := 90) hx hb dX0_mixMoments_11 (by decide) (by omega) (by omega) (fun c_1 => ?_) (fun c_1 => ?_)
  · refine lv_lload_n hx hb dX0_mixMoments_90 rfl (lv_at hl 2 rfl) ?_
    exact zr_l hx hb hr hlocks dX0_mixMoments_91 (by rw [q3z, show t = zpg u + 1 by omega])
  · refine lv_lload_n hx hb dX0_mixMoments_14 rfl (lv_at hl 2 rfl) ?_
    refine lv_aload_n hx hb dX0_mixMoments_15 rfl (lv_at hl 0 rfl) ?_
    refine gf_X0_26 hx hb hts hin m26 hown hK hP dX0_mixMoments_16 ?_
    refine lv_iload hx hb dX0_mixMoments_19 (lv_at hl 3 rfl) ?_
    refine al_X0_6 hx hb hK hP ⟨by omega, by omega⟩ dX0_mixMoments_21 ?_
    have hv_2 := iv_fx hI t
    refine z_if_eq (tgt := 29) hx hb dX0_mixMoments_22 (by decide) (by omega) (fun c_3 => ?_) (fun c_3 => ?_)
    · refine z_lconst (z := 0) hx hb dX0_mixMoments_29 rfl ?_
      refine zS_l (As := [.long (jI x), .long (jI 0)]) (rest := []) ⟨hx, hb, hml, hown, hts⟩ (PT) PT_blind PT_mv  (c_X0_mix l g x 0) (va_cwS 2 hts gX0_mixMoments_X0_mix rfl rfl rfl (by decide +kernel) ⟨Nat.le_of_ble_eq_true rfl, Nat.le_of_ble_eq_true rfl⟩) rfl hl.1 rfl (Nat.le_of_ble_eq_true rfl) dX0_mixMoments_30 ⟨Nat.zero_le _, Nat.zero_le _⟩ ?_
      refine lv_lstore_n (lv' := [(3, .long (jI (mx x 0))), (0, .ref (gX g 0)), (1, .long (jI h)), (5, .int (iI t))]) hx hb dX0_mixMoments_33 rfl hl (by decide) rfl (fun ls hl => ?_)
      refine lv_lload_n hx hb dX0_mixMoments_34 rfl (lv_at hl 0 rfl) ?_
      refine lv_aload_n hx hb dX0_mixMoments_35 rfl (lv_at hl 1 rfl) ?_
      refine lv_iload hx hb dX0_mixMoments_36 (lv_at hl 3 rfl) ?_
      refine z_bipush hx hb dX0_mixMoments_38 (by decide +kernel) ?_
      refine zV_l (As := [.int (iI t), .int (iI 8)]) (rest := [.long (jI (mx x 0))]) ⟨hx, hb, hml, hown, hts⟩ (PX g u) (PX_blind g u) (PX_mv hPX) (rcX hK hP) (c_X0_reckoned l g u t 8 hI (by omega) (by omega) (by omega)) (cwV 2 hts gX0_mixMoments_X0_reckoned rfl rfl rfl (by decide +kernel) ⟨Nat.le_of_ble_eq_true rfl, Nat.le_of_ble_eq_true rfl⟩) rfl hl.1 rfl (Nat.le_of_ble_eq_true rfl) dX0_mixMoments_40 ⟨Nat.zero_le _, Nat.zero_le _⟩ ?_
      refine zS_l (As := [.long (jI (mx x 0)), .long (jI (rk u 8 t))]) (rest := []) ⟨hx, hb, hml, hown, hts⟩ (PT) PT_blind PT_mv  (c_X0_mix l g (mx x 0) (rk u 8 t)) (va_cwS 2 hts gX0_mixMoments_X0_mix rfl rfl rfl (by decide +kernel) ⟨Nat.le_of_ble_eq_true rfl, Nat.le_of_ble_eq_true rfl⟩) rfl hl.1 rfl (Nat.le_of_ble_eq_true rfl) dX0_mixMoments_43 ⟨Nat.zero_le _, Nat.zero_le _⟩ ?_
      refine lv_lstore_n (lv' := [(3, .long (jI (mx (mx x 0) (rk u 8 t)))), (0, .ref (gX g 0)), (1, .long (jI h)), (5, .int (iI t))]) hx hb dX0_mixMoments_46 rfl hl (by decide) rfl (fun ls hl => ?_)
      refine lv_lload_n hx hb dX0_mixMoments_47 rfl (lv_at hl 0 rfl) ?_
      refine lv_aload_n hx hb dX0_mixMoments_48 rfl (lv_at hl 1 rfl) ?_
      refine lv_iload hx hb dX0_mixMoments_49 (lv_at hl 3 rfl) ?_
      refine z_iconst hx hb dX0_mixMoments_51 ?_
      refine zV_l (As := [.int (iI t), .int (iI 0)]) (rest := [.long (jI (mx (mx x 0) (rk u 8 t)))]) ⟨hx, hb, hml, hown, hts⟩ (PX g u) (PX_blind g u) (PX_mv hPX) (rcX hK hP) (c_X0_reckoned l g u t 0 hI (by omega) (by omega) (by omega)) (cwV 2 hts gX0_mixMoments_X0_reckoned rfl rfl rfl (by decide +kernel) ⟨Nat.le_of_ble_eq_true rfl, Nat.le_of_ble_eq_true rfl⟩) rfl hl.1 rfl (Nat.le_of_ble_eq_true rfl) dX0_mixMoments_52 ⟨Nat.zero_le _, Nat.zero_le _⟩ ?_
      refine zS_l (As := [.long (jI (mx (mx x 0) (rk u 8 t))), .long (jI (rk u 0 t))]) (rest := []) ⟨hx, hb, hml, hown, hts⟩ (PT) PT_blind PT_mv  (c_X0_mix l g (mx (mx x 0) (rk u 8 t)) (rk u 0 t)) (va_cwS 2 hts gX0_mixMoments_X0_mix rfl rfl rfl (by decide +kernel) ⟨Nat.le_of_ble_eq_true rfl, Nat.le_of_ble_eq_true rfl⟩) rfl hl.1 rfl (Nat.le_of_ble_eq_true rfl) dX0_mixMoments_55 ⟨Nat.zero_le _, Nat.zero_le _⟩ ?_
      refine lv_lstore_n (lv' := [(3, .long (jI (mx (mx (mx x 0) (rk u 8 t)) (rk u 0 t)))), (0, .ref (gX g 0)), (1, .long (jI h)), (5, .int (iI t))]) hx hb dX0_mixMoments_58 rfl hl (by decide) rfl (fun ls hl => ?_)
      refine lv_lload_n hx hb dX0_mixMoments_59 rfl (lv_at hl 0 rfl) ?_
      refine lv_aload_n hx hb dX0_mixMoments_60 rfl (lv_at hl 1 rfl) ?_
      refine lv_iload hx hb dX0_mixMoments_61 (lv_at hl 3 rfl) ?_
      refine z_bipush hx hb dX0_mixMoments_63 (by decide +kernel) ?_
      refine zV_l (As := [.int (iI t), .int (iI 8)]) (rest := [.long (jI (mx (mx (mx x 0) (rk u 8 t)) (rk u 0 t)))]) ⟨hx, hb, hml, hown, hts⟩ (PX g u) (PX_blind g u) (PX_mv hPX) (rcX hK hP) (c_X0_corrected l g u t 8 hI (by omega) (by omega) (by omega)) (cwV 2 hts gX0_mixMoments_X0_corrected rfl rfl rfl (by decide +kernel) ⟨Nat.le_of_ble_eq_true rfl, Nat.le_of_ble_eq_true rfl⟩) rfl hl.1 rfl (Nat.le_of_ble_eq_true rfl) dX0_mixMoments_65 ⟨Nat.zero_le _, Nat.zero_le _⟩ ?_
      refine zS_l (As := [.long (jI (mx (mx (mx x 0) (rk u 8 t)) (rk u 0 t))), .long (jI (co u 8 t))]) (rest := []) ⟨hx, hb, hml, hown, hts⟩ (PT) PT_blind PT_mv  (c_X0_mix l g (mx (mx (mx x 0) (rk u 8 t)) (rk u 0 t)) (co u 8 t)) (va_cwS 2 hts gX0_mixMoments_X0_mix rfl rfl rfl (by decide +kernel) ⟨Nat.le_of_ble_eq_true rfl, Nat.le_of_ble_eq_true rfl⟩) rfl hl.1 rfl (Nat.le_of_ble_eq_true rfl) dX0_mixMoments_68 ⟨Nat.zero_le _, Nat.zero_le _⟩ ?_
      refine lv_lstore_n (lv' := [(3, .long (jI (mx (mx (mx (mx x 0) (rk u 8 t)) (rk u 0 t)) (co u 8 t)))), (0, .ref (gX g 0)), (1, .long (jI h)), (5, .int (iI t))]) hx hb dX0_mixMoments_71 rfl hl (by decide) rfl (fun ls hl => ?_)
      refine lv_lload_n hx hb dX0_mixMoments_72 rfl (lv_at hl 0 rfl) ?_
      refine lv_aload_n hx hb dX0_mixMoments_73 rfl (lv_at hl 1 rfl) ?_
      refine lv_iload hx hb dX0_mixMoments_74 (lv_at hl 3 rfl) ?_
      refine z_iconst hx hb dX0_mixMoments_76 ?_
      refine zV_l (As := [.int (iI t), .int (iI 0)]) (rest := [.long (jI (mx (mx (mx (mx x 0) (rk u 8 t)) (rk u 0 t)) (co u 8 t)))]) ⟨hx, hb, hml, hown, hts⟩ (PX g u) (PX_blind g u) (PX_mv hPX) (rcX hK hP) (c_X0_corrected l g u t 0 hI (by omega) (by omega) (by omega)) (cwV 2 hts gX0_mixMoments_X0_corrected rfl rfl rfl (by decide +kernel) ⟨Nat.le_of_ble_eq_true rfl, Nat.le_of_ble_eq_true rfl⟩) rfl hl.1 rfl (Nat.le_of_ble_eq_true rfl) dX0_mixMoments_77 ⟨Nat.zero_le _, Nat.zero_le _⟩ ?_
      refine zS_l (As := [.long (jI (mx (mx (mx (mx x 0) (rk u 8 t)) (rk u 0 t)) (co u 8 t))), .long (jI (co u 0 t))]) (rest := []) ⟨hx, hb, hml, hown, hts⟩ (PT) PT_blind PT_mv  (c_X0_mix l g (mx (mx (mx (mx x 0) (rk u 8 t)) (rk u 0 t)) (co u 8 t)) (co u 0 t)) (va_cwS 2 hts gX0_mixMoments_X0_mix rfl rfl rfl (by decide +kernel) ⟨Nat.le_of_ble_eq_true rfl, Nat.le_of_ble_eq_true rfl⟩) rfl hl.1 rfl (Nat.le_of_ble_eq_true rfl) dX0_mixMoments_80 ⟨Nat.zero_le _, Nat.zero_le _⟩ ?_
      refine lv_lstore_n (lv' := [(3, .long (jI (mx (mx (mx (mx (mx x 0) (rk u 8 t)) (rk u 0 t)) (co u 8 t)) (co u 0 t)))), (0, .ref (gX g 0)), (1, .long (jI h)), (5, .int (iI t))]) hx hb dX0_mixMoments_83 rfl hl (by decide) rfl (fun ls hl => ?_)
      refine z_iinc (k := 3) (lv' := [(5, .int (iI (t + 1))), (3, .long (jI (mx (mx (mx (mx (mx x 0) (rk u 8 t)) (rk u 0 t)) (co u 8 t)) (co u 0 t)))), (0, .ref (gX g 0)), (1, .long (jI h))]) hx hb dX0_mixMoments_84 hl rfl (by decide) rfl (fun ls hl => ?_)
      refine lv_goto (tgt := 5) hx hb dX0_mixMoments_87 (by decide) ?_
      exact ih_5 (mx (mx (mx (mx (mx x 0) (rk u 8 t)) (rk u 0 t)) (co u 8 t)) (co u 0 t)) (t + 1) ls ⟨(by omega), (by rw [dgm_s q1z.1, ← q3z]; congr 5; omega)⟩ (show (zpg u + 1 - (t + 1)).toNat < (zpg u + 1 - t).toNat by omega) (lv_sub hl [2, 3, 1, 0] rfl)
    · refine z_lconst (z := 1) hx hb dX0_mixMoments_25 rfl ?_
      refine lv_goto (tgt := 30) hx hb dX0_mixMoments_26 (by decide) ?_
      refine zS_l (As := [.long (jI x), .long (jI 1)]) (rest := []) ⟨hx, hb, hml, hown, hts⟩ (PT) PT_blind PT_mv  (c_X0_mix l g x 1) (va_cwS 2 hts gX0_mixMoments_X0_mix rfl rfl rfl (by decide +kernel) ⟨Nat.le_of_ble_eq_true rfl, Nat.le_of_ble_eq_true rfl⟩) rfl hl.1 rfl (Nat.le_of_ble_eq_true rfl) dX0_mixMoments_30 ⟨Nat.zero_le _, Nat.zero_le _⟩ ?_
      refine lv_lstore_n (lv' := [(3, .long (jI (mx x 1))), (0, .ref (gX g 0)), (1, .long (jI h)), (5, .int (iI t))]) hx hb dX0_mixMoments_33 rfl hl (by decide) rfl (fun ls hl => ?_)
      refine lv_lload_n hx hb dX0_mixMoments_34 rfl (lv_at hl 0 rfl) ?_
      refine lv_aload_n hx hb dX0_mixMoments_35 rfl (lv_at hl 1 rfl) ?_
      refine lv_iload hx hb dX0_mixMoments_36 (lv_at hl 3 rfl) ?_
      refine z_bipush hx hb dX0_mixMoments_38 (by decide +kernel) ?_
      refine zV_l (As := [.int (iI t), .int (iI 8)]) (rest := [.long (jI (mx x 1))]) ⟨hx, hb, hml, hown, hts⟩ (PX g u) (PX_blind g u) (PX_mv hPX) (rcX hK hP) (c_X0_reckoned l g u t 8 hI (by omega) (by omega) (by omega)) (cwV 2 hts gX0_mixMoments_X0_reckoned rfl rfl rfl (by decide +kernel) ⟨Nat.le_of_ble_eq_true rfl, Nat.le_of_ble_eq_true rfl⟩) rfl hl.1 rfl (Nat.le_of_ble_eq_true rfl) dX0_mixMoments_40 ⟨Nat.zero_le _, Nat.zero_le _⟩ ?_
      refine zS_l (As := [.long (jI (mx x 1)), .long (jI (rk u 8 t))]) (rest := []) ⟨hx, hb, hml, hown, hts⟩ (PT) PT_blind PT_mv  (c_X0_mix l g (mx x 1) (rk u 8 t)) (va_cwS 2 hts gX0_mixMoments_X0_mix rfl rfl rfl (by decide +kernel) ⟨Nat.le_of_ble_eq_true rfl, Nat.le_of_ble_eq_true rfl⟩) rfl hl.1 rfl (Nat.le_of_ble_eq_true rfl) dX0_mixMoments_43 ⟨Nat.zero_le _, Nat.zero_le _⟩ ?_
      refine lv_lstore_n (lv' := [(3, .long (jI (mx (mx x 1) (rk u 8 t)))), (0, .ref (gX g 0)), (1, .long (jI h)), (5, .int (iI t))]) hx hb dX0_mixMoments_46 rfl hl (by decide) rfl (fun ls hl => ?_)
      refine lv_lload_n hx hb dX0_mixMoments_47 rfl (lv_at hl 0 rfl) ?_
      refine lv_aload_n hx hb dX0_mixMoments_48 rfl (lv_at hl 1 rfl) ?_
      refine lv_iload hx hb dX0_mixMoments_49 (lv_at hl 3 rfl) ?_
      refine z_iconst hx hb dX0_mixMoments_51 ?_
      refine zV_l (As := [.int (iI t), .int (iI 0)]) (rest := [.long (jI (mx (mx x 1) (rk u 8 t)))]) ⟨hx, hb, hml, hown, hts⟩ (PX g u) (PX_blind g u) (PX_mv hPX) (rcX hK hP) (c_X0_reckoned l g u t 0 hI (by omega) (by omega) (by omega)) (cwV 2 hts gX0_mixMoments_X0_reckoned rfl rfl rfl (by decide +kernel) ⟨Nat.le_of_ble_eq_true rfl, Nat.le_of_ble_eq_true rfl⟩) rfl hl.1 rfl (Nat.le_of_ble_eq_true rfl) dX0_mixMoments_52 ⟨Nat.zero_le _, Nat.zero_le _⟩ ?_
      refine zS_l (As := [.long (jI (mx (mx x 1) (rk u 8 t))), .long (jI (rk u 0 t))]) (rest := []) ⟨hx, hb, hml, hown, hts⟩ (PT) PT_blind PT_mv  (c_X0_mix l g (mx (mx x 1) (rk u 8 t)) (rk u 0 t)) (va_cwS 2 hts gX0_mixMoments_X0_mix rfl rfl rfl (by decide +kernel) ⟨Nat.le_of_ble_eq_true rfl, Nat.le_of_ble_eq_true rfl⟩) rfl hl.1 rfl (Nat.le_of_ble_eq_true rfl) dX0_mixMoments_55 ⟨Nat.zero_le _, Nat.zero_le _⟩ ?_
      refine lv_lstore_n (lv' := [(3, .long (jI (mx (mx (mx x 1) (rk u 8 t)) (rk u 0 t)))), (0, .ref (gX g 0)), (1, .long (jI h)), (5, .int (iI t))]) hx hb dX0_mixMoments_58 rfl hl (by decide) rfl (fun ls hl => ?_)
      refine lv_lload_n hx hb dX0_mixMoments_59 rfl (lv_at hl 0 rfl) ?_
      refine lv_aload_n hx hb dX0_mixMoments_60 rfl (lv_at hl 1 rfl) ?_
      refine lv_iload hx hb dX0_mixMoments_61 (lv_at hl 3 rfl) ?_
      refine z_bipush hx hb dX0_mixMoments_63 (by decide +kernel) ?_
      refine zV_l (As := [.int (iI t), .int (iI 8)]) (rest := [.long (jI (mx (mx (mx x 1) (rk u 8 t)) (rk u 0 t)))]) ⟨hx, hb, hml, hown, hts⟩ (PX g u) (PX_blind g u) (PX_mv hPX) (rcX hK hP) (c_X0_corrected l g u t 8 hI (by omega) (by omega) (by omega)) (cwV 2 hts gX0_mixMoments_X0_corrected rfl rfl rfl (by decide +kernel) ⟨Nat.le_of_ble_eq_true rfl, Nat.le_of_ble_eq_true rfl⟩) rfl hl.1 rfl (Nat.le_of_ble_eq_true rfl) dX0_mixMoments_65 ⟨Nat.zero_le _, Nat.zero_le _⟩ ?_
      refine zS_l (As := [.long (jI (mx (mx (mx x 1) (rk u 8 t)) (rk u 0 t))), .long (jI (co u 8 t))]) (rest := []) ⟨hx, hb, hml, hown, hts⟩ (PT) PT_blind PT_mv  (c_X0_mix l g (mx (mx (mx x 1) (rk u 8 t)) (rk u 0 t)) (co u 8 t)) (va_cwS 2 hts gX0_mixMoments_X0_mix rfl rfl rfl (by decide +kernel) ⟨Nat.le_of_ble_eq_true rfl, Nat.le_of_ble_eq_true rfl⟩) rfl hl.1 rfl (Nat.le_of_ble_eq_true rfl) dX0_mixMoments_68 ⟨Nat.zero_le _, Nat.zero_le _⟩ ?_
      refine lv_lstore_n (lv' := [(3, .long (jI (mx (mx (mx (mx x 1) (rk u 8 t)) (rk u 0 t)) (co u 8 t)))), (0, .ref (gX g 0)), (1, .long (jI h)), (5, .int (iI t))]) hx hb dX0_mixMoments_71 rfl hl (by decide) rfl (fun ls hl => ?_)
      refine lv_lload_n hx hb dX0_mixMoments_72 rfl (lv_at hl 0 rfl) ?_
      refine lv_aload_n hx hb dX0_mixMoments_73 rfl (lv_at hl 1 rfl) ?_
      refine lv_iload hx hb dX0_mixMoments_74 (lv_at hl 3 rfl) ?_
      refine z_iconst hx hb dX0_mixMoments_76 ?_
      refine zV_l (As := [.int (iI t), .int (iI 0)]) (rest := [.long (jI (mx (mx (mx (mx x 1) (rk u 8 t)) (rk u 0 t)) (co u 8 t)))]) ⟨hx, hb, hml, hown, hts⟩ (PX g u) (PX_blind g u) (PX_mv hPX) (rcX hK hP) (c_X0_corrected l g u t 0 hI (by omega) (by omega) (by omega)) (cwV 2 hts gX0_mixMoments_X0_corrected rfl rfl rfl (by decide +kernel) ⟨Nat.le_of_ble_eq_true rfl, Nat.le_of_ble_eq_true rfl⟩) rfl hl.1 rfl (Nat.le_of_ble_eq_true rfl) dX0_mixMoments_77 ⟨Nat.zero_le _, Nat.zero_le _⟩ ?_
      refine zS_l (As := [.long (jI (mx (mx (mx (mx x 1) (rk u 8 t)) (rk u 0 t)) (co u 8 t))), .long (jI (co u 0 t))]) (rest := []) ⟨hx, hb, hml, hown, hts⟩ (PT) PT_blind PT_mv  (c_X0_mix l g (mx (mx (mx (mx x 1) (rk u 8 t)) (rk u 0 t)) (co u 8 t)) (co u 0 t)) (va_cwS 2 hts gX0_mixMoments_X0_mix rfl rfl rfl (by decide +kernel) ⟨Nat.le_of_ble_eq_true rfl, Nat.le_of_ble_eq_true rfl⟩) rfl hl.1 rfl (Nat.le_of_ble_eq_true rfl) dX0_mixMoments_80 ⟨Nat.zero_le _, Nat.zero_le _⟩ ?_
      refine lv_lstore_n (lv' := [(3, .long (jI (mx (mx (mx (mx (mx x 1) (rk u 8 t)) (rk u 0 t)) (co u 8 t)) (co u 0 t)))), (0, .ref (gX g 0)), (1, .long (jI h)), (5, .int (iI t))]) hx hb dX0_mixMoments_83 rfl hl (by decide) rfl (fun ls hl => ?_)
      refine z_iinc (k := 3) (lv' := [(5, .int (iI (t + 1))), (3, .long (jI (mx (mx (mx (mx (mx x 1) (rk u 8 t)) (rk u 0 t)) (co u 8 t)) (co u 0 t)))), (0, .ref (gX g 0)), (1, .long (jI h))]) hx hb dX0_mixMoments_84 hl rfl (by decide) rfl (fun ls hl => ?_)
      refine lv_goto (tgt := 5) hx hb dX0_mixMoments_87 (by decide) ?_
      exact ih_5 (mx (mx (mx (mx (mx x 1) (rk u 8 t)) (rk u 0 t)) (co u 8 t)) (co u 0 t)) (t + 1) ls ⟨(by omega), (by rw [dgm_s q1z.1, ← q3z]; congr 5; omega)⟩ (show (zpg u + 1 - (t + 1)).toNat < (zpg u + 1 - t).toNat by omega) (lv_sub hl [2, 3, 1, 0] rfl)
set_option maxHeartbeats 4000000 in
set_option maxRecDepth 100000 in
theorem c_X0_mixBuffer (l : Launch) (g : GG) (u : ST) (h : Int) (hI : Inv u) : Met l yX0_mixBuffer wsX0_mixBuffer (k2_rm 1 23) (va_Pc [.ref (gX g 0), .long (jI h)] (fun U => PY g u U U.heap)) (vp_Sl (fun r => r = jI (dgb u (mx h (zbl u)) (zbl u)))) 0 0 (fun _ => False) := by
  refine Met.ofW (cc := cX0_mixBuffer) (maxL := 6) (ret := (some .long)) (by decide) rfl ?_
  intro pp ee s mm args below meth cc9 s₁ B hml hv
  obtain ⟨rfl, hPX⟩ := hv
  obtain ⟨hP, hK⟩ := id hPX
  have hx := B.exec
  have hb := B.bytes
  have hr := B.returns
  have hts := atoms_spec (ws := wsX0_mixBuffer) B.pre
  have hown : s.vm.findClass RX0 = some mm.cls := findClass_of_methodNamed B.named
  have hlocks := B.notSynchronized
  have hin : ∀ w ∈ wsX00, w ∈ wsX0_mixBuffer := fun w h => List.mem_cons_of_mem _ (List.mem_append_right _ h)
  have m41 : Cond.fieldLink RX0 41 "TraverseBoard" "bufferLength" "I" ∈ wsX0_mixBuffer := by decide +kernel
  have m9z : Cond.fieldLink RX0 9 "TraverseBoard" "buffer" "[I" ∈ wsX0_mixBuffer := by decide +kernel
  have hi_bl := iv_bl hI
  have hi_pg := iv_pg hI
  have hi_se := iv_se hI
  have hi_dr := iv_dr hI
  have hl := lv_entry ([.ref (gX g 0), .long (jI h)]) (n := 6) (Nat.le_of_ble_eq_true rfl)
  rw [lg_entry_eq]
  generalize (lg_sl ([.ref (gX g 0), .long (jI h)]) ++ List.replicate (6 - (lg_sl ([.ref (gX g 0), .long (jI h)])).length) Slot.unset).toArray = ls at hl ⊢
  have hl : lv_has ls 6 [(0, .ref (gX g 0)), (1, .long (jI h))] := hl
  refine lv_lload_n hx hb dX0_mixBuffer_0 rfl (lv_at hl 1 rfl) ?_
  refine lv_aload_n hx hb dX0_mixBuffer_1 rfl (lv_at hl 0 rfl) ?_
  refine gf_X0_41 (z := zbl u) hx hb hts hin m41 hown hK hP rfl dX0_mixBuffer_2 ?_
  refine z_i2l hx hb (by omega) dX0_mixBuffer_5 ?_
  refine zS_l (As := [.long (jI h), .long (jI (zbl u))]) (rest := []) ⟨hx, hb, hml, hown, hts⟩ (PT) PT_blind PT_mv  (c_X0_mix l g h (zbl u)) (va_cwS 2 hts gX0_mixBuffer_X0_mix rfl rfl rfl (by decide +kernel) ⟨Nat.le_of_ble_eq_true rfl, Nat.le_of_ble_eq_true rfl⟩) rfl hl.1 rfl (Nat.le_of_ble_eq_true rfl) dX0_mixBuffer_6 ⟨Nat.zero_le _, Nat.zero_le _⟩ ?_
  refine lv_lstore_n (lv' := [(3, .long (jI (mx h (zbl u)))), (0, .ref (gX g 0)), (1, .long (jI h))]) hx hb dX0_mixBuffer_9 rfl hl (by decide) rfl (fun ls hl => ?_)
  refine z_iconst hx hb dX0_mixBuffer_10 ?_
  refine lv_istore (lv' := [(5, .int (iI 0)), (3, .long (jI (mx h (zbl u)))), (0, .ref (gX g 0)), (1, .long (jI h))]) hx hb dX0_mixBuffer_11 hl (by decide) rfl (fun ls hl => ?_)
  refine z_loop2 (nL := 6) (fun x t => (0 ≤ t ∧ t ≤ zbl u) ∧ (x = dgb u (mx h (zbl u)) t)) (fun x t => (zbl u - t).toNat) (fun x t => [(0, .ref (gX g 0)), (1, .long (jI h)), (3, .long (jI x)), (5, .int (iI t))]) (fun x t ls hinv hl ih_13 => ?_) (mx h (zbl u)) 0 ls ⟨(by omega), (by exact (dgb_0 (Int.le_refl _)).symm)⟩ (lv_sub hl [2, 3, 1, 0] rfl)
  have hinv : (0 ≤ t ∧ t ≤ zbl u) ∧ (x = dgb u (mx h (zbl u)) t) := hinv
  obtain ⟨q1z, q3z⟩ := hinv
  have hl : lv_has ls 6 [(0, .ref (gX g 0)), (1, .long (jI h)), (3, .long (jI x)), (5, .int (iI t))] := hl
  refine lv_iload hx hb dX0_mixBuffer_13 (lv_at hl 3 rfl) ?_
  refine lv_aload_n hx hb dX0_mixBuffer_15 rfl (lv_at hl 0 rfl) ?_
  refine gf_X0_41 (z := zbl u) hx hb hts hin m41 hown hK hP rfl dX0_mixBuffer_16 ?_
  refine z_icmp_ge (tgt := 41) hx hb dX0_mixBuffer_19 (by decide) (by omega) (by omega) (fun c_1 => ?_) (fun c_1 => ?_)
  · refine lv_lload_n hx hb dX0_mixBuffer_41 rfl (lv_at hl 2 rfl) ?_
    exact zr_l hx hb hr hlocks dX0_mixBuffer_42 (by rw [q3z, show t = zbl u by omega])
  · refine lv_lload_n hx hb dX0_mixBuffer_22 rfl (lv_at hl 2 rfl) ?_
    refine lv_aload_n hx hb dX0_mixBuffer_23 rfl (lv_at hl 0 rfl) ?_
    refine gf_X0_9 hx hb hts hin m9z hown hK hP dX0_mixBuffer_24 ?_
    refine lv_iload hx hb dX0_mixBuffer_27 (lv_at hl 3 rfl) ?_
    refine al_X0_1 hx hb hK hP ⟨by omega, by omega⟩ dX0_mixBuffer_29 ?_
    have hv_2 := iv_bu hI t
    refine z_i2l hx hb (by omega) dX0_mixBuffer_30 ?_
    refine zS_l (As := [.long (jI x), .long (jI (zbu u t))]) (rest := []) ⟨hx, hb, hml, hown, hts⟩ (PT) PT_blind PT_mv  (c_X0_mix l g x (zbu u t)) (va_cwS 2 hts gX0_mixBuffer_X0_mix rfl rfl rfl (by decide +kernel) ⟨Nat.le_of_ble_eq_true rfl, Nat.le_of_ble_eq_true rfl⟩) rfl hl.1 rfl (Nat.le_of_ble_eq_true rfl) dX0_mixBuffer_31 ⟨Nat.zero_le _, Nat.zero_le _⟩ ?_
    refine lv_lstore_n (lv' := [(3, .long (jI (mx x (zbu u t)))), (0, .ref (gX g 0)), (1, .long (jI h)), (5, .int (iI t))]) hx hb dX0_mixBuffer_34 rfl hl (by decide) rfl (fun ls hl => ?_)
    refine z_iinc (k := 3) (lv' := [(5, .int (iI (t + 1))), (3, .long (jI (mx x (zbu u t)))), (0, .ref (gX g 0)), (1, .long (jI h))]) hx hb dX0_mixBuffer_35 hl rfl (by decide) rfl (fun ls hl => ?_)
    refine lv_goto (tgt := 13) hx hb dX0_mixBuffer_38 (by decide) ?_
    exact ih_13 (mx x (zbu u t)) (t + 1) ls ⟨(by omega), (by rw [dgb_s q1z.1, ← q3z])⟩ (show (zbl u - (t + 1)).toNat < (zbl u - t).toNat by omega) (lv_sub hl [2, 3, 1, 0] rfl)
set_option maxHeartbeats 4000000 in
set_option maxRecDepth 100000 in
theorem c_X0_digest (l : Launch) (g : GG) (u : ST) (hI : Inv u) : Met l yX0_digest wsX0_digest (k2_rm 7 166) (va_Pc [.ref (gX g 0)] (fun U => PX g u U U.heap)) (vp_Sl (fun r => r = jI (dig u))) 0 0 (fun _ => False) := by
  refine Met.ofW (cc := cX0_digest) (maxL := 4) (ret := (some .long)) (by decide) rfl ?_
  intro pp ee s mm args below meth cc9 s₁ B hml hv
  obtain ⟨rfl, hPX⟩ := hv
  obtain ⟨hP, hK, hZS⟩ := id hPX
  have hx := B.exec
  have hb := B.bytes
  have hr := B.returns
  have hts := atoms_spec (ws := wsX0_digest) B.pre
  have hown : s.vm.findClass RX0 = some mm.cls := findClass_of_methodNamed B.named
  have hlocks := B.notSynchronized
  have hin : ∀ w ∈ wsX00, w ∈ wsX0_digest := fun w h => List.mem_cons_of_mem _ (List.mem_append_right _ h)
  have m115 : Cond.fieldLink RX0 115 "TraverseBoard" "drift" "I" ∈ wsX0_digest := by decide +kernel
  have m118 : Cond.fieldLink RX0 118 "TraverseBoard" "set" "I" ∈ wsX0_digest := by decide +kernel
  have m202 : Cond.constantLong RX0 202 (1811) ∈ wsX0_digest := by decide +kernel
  have m71 : Cond.fieldLink RX0 71 "TraverseBoard" "pegs" "I" ∈ wsX0_digest := by decide +kernel
  have hS0 : va_S nA s.heap s.heap [] := va_S.rf
  have hi_bl := iv_bl hI
  have hi_pg := iv_pg hI
  have hi_se := iv_se hI
  have hi_dr := iv_dr hI
  have hfl := fl_rng u
  have e1z : diR u 0 (zpg u) = dist u 0 (zpg u) := by unfold diR; rw [if_pos ⟨by omega, by omega⟩]
  have e2z : brR u 0 (zpg u) = br u 0 (zpg u) := by unfold brR; rw [if_pos ⟨by omega, by omega⟩]
  have hl := lv_entry ([.ref (gX g 0)]) (n := 4) (Nat.le_of_ble_eq_true rfl)
  rw [lg_entry_eq]
  generalize (lg_sl ([.ref (gX g 0)]) ++ List.replicate (4 - (lg_sl ([.ref (gX g 0)])).length) Slot.unset).toArray = ls at hl ⊢
  have hl : lv_has ls 4 [(0, .ref (gX g 0))] := hl
  refine lv_ldc2 (v := jI (1811)) hx hb hown (hts _ m202) dX0_digest_0 ?_
  refine lv_aload_n hx hb dX0_digest_3 rfl (lv_at hl 0 rfl) ?_
  refine gf_X0_71 (z := zpg u) hx hb hts hin m71 hown hK hP rfl dX0_digest_4 ?_
  refine z_i2l hx hb (by omega) dX0_digest_7 ?_
  refine zS_l (As := [.long (jI 1811), .long (jI (zpg u))]) (rest := []) ⟨hx, hb, hml, hown, hts⟩ (PT) PT_blind PT_mv  (c_X0_mix l g 1811 (zpg u)) (va_cwS 2 hts gX0_digest_X0_mix rfl rfl rfl (by decide +kernel) ⟨Nat.le_of_ble_eq_true rfl, Nat.le_of_ble_eq_true rfl⟩) rfl hl.1 rfl (Nat.le_of_ble_eq_true rfl) dX0_digest_8 ⟨Nat.zero_le _, Nat.zero_le _⟩ ?_
  refine lv_lstore_n (lv' := [(1, .long (jI (mx 1811 (zpg u)))), (0, .ref (gX g 0))]) hx hb dX0_digest_11 rfl hl (by decide) rfl (fun ls hl => ?_)
  refine lv_aload_n hx hb dX0_digest_12 rfl (lv_at hl 1 rfl) ?_
  refine lv_lload_n hx hb dX0_digest_13 rfl (lv_at hl 0 rfl) ?_
  refine zV_l (As := [.long (jI (mx 1811 (zpg u)))]) (rest := []) ⟨hx, hb, hml, hown, hts⟩ (PY g u) (PY_blind g u) (PY_mv hP hK) (rcX hK hP) (c_X0_mixPegs l g u (mx 1811 (zpg u)) hI) (cwV 1 hts gX0_digest_X0_mixPegs rfl rfl rfl (by decide +kernel) ⟨Nat.le_of_ble_eq_true rfl, Nat.le_of_ble_eq_true rfl⟩) rfl hl.1 rfl (Nat.le_of_ble_eq_true rfl) dX0_digest_14 ⟨Nat.zero_le _, Nat.zero_le _⟩ ?_
  refine lv_lstore_n (lv' := [(1, .long (jI (dgp u (mx 1811 (zpg u)) (zpg u)))), (0, .ref (gX g 0))]) hx hb dX0_digest_17 rfl hl (by decide) rfl (fun ls hl => ?_)
  refine lv_lload_n hx hb dX0_digest_18 rfl (lv_at hl 0 rfl) ?_
  refine lv_aload_n hx hb dX0_digest_19 rfl (lv_at hl 1 rfl) ?_
  refine gf_X0_118 (z := zse u) hx hb hts hin m118 hown hK hP rfl dX0_digest_20 ?_
  refine z_i2l hx hb (by omega) dX0_digest_23 ?_
  refine zS_l (As := [.long (jI (dgp u (mx 1811 (zpg u)) (zpg u))), .long (jI (zse u))]) (rest := []) ⟨hx, hb, hml, hown, hts⟩ (PT) PT_blind PT_mv  (c_X0_mix l g (dgp u (mx 1811 (zpg u)) (zpg u)) (zse u)) (va_cwS 2 hts gX0_digest_X0_mix rfl rfl rfl (by decide +kernel) ⟨Nat.le_of_ble_eq_true rfl, Nat.le_of_ble_eq_true rfl⟩) rfl hl.1 rfl (Nat.le_of_ble_eq_true rfl) dX0_digest_24 ⟨Nat.zero_le _, Nat.zero_le _⟩ ?_
  refine lv_aload_n hx hb dX0_digest_27 rfl (lv_at hl 1 rfl) ?_
  refine gf_X0_115 (z := zdr u) hx hb hts hin m115 hown hK hP rfl dX0_digest_28 ?_
  refine z_i2l hx hb (by omega) dX0_digest_31 ?_
  refine zS_l (As := [.long (jI (mx (dgp u (mx 1811 (zpg u)) (zpg u)) (zse u))), .long (jI (zdr u))]) (rest := []) ⟨hx, hb, hml, hown, hts⟩ (PT) PT_blind PT_mv  (c_X0_mix l g (mx (dgp u (mx 1811 (zpg u)) (zpg u)) (zse u)) (zdr u)) (va_cwS 2 hts gX0_digest_X0_mix rfl rfl rfl (by decide +kernel) ⟨Nat.le_of_ble_eq_true rfl, Nat.le_of_ble_eq_true rfl⟩) rfl hl.1 rfl (Nat.le_of_ble_eq_true rfl) dX0_digest_32 ⟨Nat.zero_le _, Nat.zero_le _⟩ ?_
  refine lv_lstore_n (lv' := [(1, .long (jI (mx (mx (dgp u (mx 1811 (zpg u)) (zpg u)) (zse u)) (zdr u)))), (0, .ref (gX g 0))]) hx hb dX0_digest_35 rfl hl (by decide) rfl (fun ls hl => ?_)
  refine lv_aload_n hx hb dX0_digest_36 rfl (lv_at hl 1 rfl) ?_
  refine lv_lload_n hx hb dX0_digest_37 rfl (lv_at hl 0 rfl) ?_
  refine zV_l (As := [.long (jI (mx (mx (dgp u (mx 1811 (zpg u)) (zpg u)) (zse u)) (zdr u)))]) (rest := []) ⟨hx, hb, hml, hown, hts⟩ (PX g u) (PX_blind g u) (PX_mv hPX) (rcX hK hP) (c_X0_mixMoments l g u (mx (mx (dgp u (mx 1811 (zpg u)) (zpg u)) (zse u)) (zdr u)) hI) (cwV 1 hts gX0_digest_X0_mixMoments rfl rfl rfl (by decide +kernel) ⟨Nat.le_of_ble_eq_true rfl, Nat.le_of_ble_eq_true rfl⟩) rfl hl.1 rfl (Nat.le_of_ble_eq_true rfl) dX0_digest_38 ⟨Nat.zero_le _, Nat.zero_le _⟩ ?_
  refine lv_lstore_n (lv' := [(1, .long (jI (dgm u (mx (mx (dgp u (mx 1811 (zpg u)) (zpg u)) (zse u)) (zdr u)) (zpg u + 1)))), (0, .ref (gX g 0))]) hx hb dX0_digest_41 rfl hl (by decide) rfl (fun ls hl => ?_)
  refine lv_lload_n hx hb dX0_digest_42 rfl (lv_at hl 0 rfl) ?_
  refine lv_aload_n hx hb dX0_digest_43 rfl (lv_at hl 1 rfl) ?_
  refine z_iconst hx hb dX0_digest_44 ?_
  refine lv_aload_n hx hb dX0_digest_45 rfl (lv_at hl 1 rfl) ?_
  refine gf_X0_71 (z := zpg u) hx hb hts hin m71 hown hK hP rfl dX0_digest_46 ?_
  refine zV_l (As := [.int (iI 0), .int (iI (zpg u))]) (rest := [.long (jI (dgm u (mx (mx (dgp u (mx 1811 (zpg u)) (zpg u)) (zse u)) (zdr u)) (zpg u + 1)))]) ⟨hx, hb, hml, hown, hts⟩ (PX g u) (PX_blind g u) (PX_mv hPX) (rcX hK hP) (c_X0_distance l g u 0 (zpg u) hI (by omega) (by omega)) (cwV 2 hts gX0_digest_X0_distance rfl rfl rfl (by decide +kernel) ⟨Nat.le_of_ble_eq_true rfl, Nat.le_of_ble_eq_true rfl⟩) rfl hl.1 rfl (Nat.le_of_ble_eq_true rfl) dX0_digest_49 ⟨Nat.zero_le _, Nat.zero_le _⟩ ?_
  refine zS_l (As := [.long (jI (dgm u (mx (mx (dgp u (mx 1811 (zpg u)) (zpg u)) (zse u)) (zdr u)) (zpg u + 1))), .long (jI (diR u 0 (zpg u)))]) (rest := []) ⟨hx, hb, hml, hown, hts⟩ (PT) PT_blind PT_mv  (c_X0_mix l g (dgm u (mx (mx (dgp u (mx 1811 (zpg u)) (zpg u)) (zse u)) (zdr u)) (zpg u + 1)) (diR u 0 (zpg u))) (va_cwS 2 hts gX0_digest_X0_mix rfl rfl rfl (by decide +kernel) ⟨Nat.le_of_ble_eq_true rfl, Nat.le_of_ble_eq_true rfl⟩) rfl hl.1 rfl (Nat.le_of_ble_eq_true rfl) dX0_digest_52 ⟨Nat.zero_le _, Nat.zero_le _⟩ ?_
  refine lv_aload_n hx hb dX0_digest_55 rfl (lv_at hl 1 rfl) ?_
  refine z_iconst hx hb dX0_digest_56 ?_
  refine lv_aload_n hx hb dX0_digest_57 rfl (lv_at hl 1 rfl) ?_
  refine gf_X0_71 (z := zpg u) hx hb hts hin m71 hown hK hP rfl dX0_digest_58 ?_
  refine zV_l (As := [.int (iI 0), .int (iI (zpg u))]) (rest := [.long (jI (mx (dgm u (mx (mx (dgp u (mx 1811 (zpg u)) (zpg u)) (zse u)) (zdr u)) (zpg u + 1)) (diR u 0 (zpg u))))]) ⟨hx, hb, hml, hown, hts⟩ (PX g u) (PX_blind g u) (PX_mv hPX) (rcX hK hP) (c_X0_bearing l g u 0 (zpg u) hI (by omega) (by omega)) (cwV 2 hts gX0_digest_X0_bearing rfl rfl rfl (by decide +kernel) ⟨Nat.le_of_ble_eq_true rfl, Nat.le_of_ble_eq_true rfl⟩) rfl hl.1 rfl (Nat.le_of_ble_eq_true rfl) dX0_digest_61 ⟨Nat.zero_le _, Nat.zero_le _⟩ ?_
  refine zS_l (As := [.long (jI (mx (dgm u (mx (mx (dgp u (mx 1811 (zpg u)) (zpg u)) (zse u)) (zdr u)) (zpg u + 1)) (diR u 0 (zpg u)))), .long (jI (brR u 0 (zpg u)))]) (rest := []) ⟨hx, hb, hml, hown, hts⟩ (PT) PT_blind PT_mv  (c_X0_mix l g (mx (dgm u (mx (mx (dgp u (mx 1811 (zpg u)) (zpg u)) (zse u)) (zdr u)) (zpg u + 1)) (diR u 0 (zpg u))) (brR u 0 (zpg u))) (va_cwS 2 hts gX0_digest_X0_mix rfl rfl rfl (by decide +kernel) ⟨Nat.le_of_ble_eq_true rfl, Nat.le_of_ble_eq_true rfl⟩) rfl hl.1 rfl (Nat.le_of_ble_eq_true rfl) dX0_digest_64 ⟨Nat.zero_le _, Nat.zero_le _⟩ ?_
  refine lv_lstore_n (lv' := [(1, .long (jI (mx (mx (dgm u (mx (mx (dgp u (mx 1811 (zpg u)) (zpg u)) (zse u)) (zdr u)) (zpg u + 1)) (diR u 0 (zpg u))) (brR u 0 (zpg u))))), (0, .ref (gX g 0))]) hx hb dX0_digest_67 rfl hl (by decide) rfl (fun ls hl => ?_)
  refine lv_aload_n hx hb dX0_digest_68 rfl (lv_at hl 1 rfl) ?_
  refine zV_i (As := []) (rest := []) ⟨hx, hb, hml, hown, hts⟩ (PY g u) (PY_blind g u) (PY_mv hP hK) (rcX hK hP) (c_X0_firstLost l g u hI) (cwV 0 hts gX0_digest_X0_firstLost rfl rfl rfl (by decide +kernel) ⟨Nat.le_of_ble_eq_true rfl, Nat.le_of_ble_eq_true rfl⟩) rfl hl.1 rfl (Nat.le_of_ble_eq_true rfl) dX0_digest_69 ⟨Nat.zero_le _, Nat.zero_le _⟩ ?_
  refine lv_istore_n (lv' := [(3, .int (iI (fl u))), (1, .long (jI (mx (mx (dgm u (mx (mx (dgp u (mx 1811 (zpg u)) (zpg u)) (zse u)) (zdr u)) (zpg u + 1)) (diR u 0 (zpg u))) (brR u 0 (zpg u))))), (0, .ref (gX g 0))]) hx hb dX0_digest_72 rfl hl (by decide) rfl (fun ls hl => ?_)
  refine lv_iload_n hx hb dX0_digest_73 rfl (lv_at hl 0 rfl) ?_
  refine z_iconst hx hb dX0_digest_74 ?_
  refine z_icmp_eq (tgt := 88) hx hb dX0_digest_75 (by decide) (by omega) ⟨by decide, by decide⟩ (fun c_1 => ?_) (fun c_1 => ?_)
  · refine lv_aload_n hx hb dX0_digest_88 rfl (lv_at hl 2 rfl) ?_
    refine lv_lload_n hx hb dX0_digest_89 rfl (lv_at hl 1 rfl) ?_
    refine zV_l (As := [.long (jI (mx (mx (dgm u (mx (mx (dgp u (mx 1811 (zpg u)) (zpg u)) (zse u)) (zdr u)) (zpg u + 1)) (diR u 0 (zpg u))) (brR u 0 (zpg u))))]) (rest := []) ⟨hx, hb, hml, hown, hts⟩ (PY g u) (PY_blind g u) (PY_mv hP hK) (rcX hK hP) (c_X0_mixBuffer l g u (mx (mx (dgm u (mx (mx (dgp u (mx 1811 (zpg u)) (zpg u)) (zse u)) (zdr u)) (zpg u + 1)) (diR u 0 (zpg u))) (brR u 0 (zpg u))) hI) (cwV 1 hts gX0_digest_X0_mixBuffer rfl rfl rfl (by decide +kernel) ⟨Nat.le_of_ble_eq_true rfl, Nat.le_of_ble_eq_true rfl⟩) rfl hl.1 rfl (Nat.le_of_ble_eq_true rfl) dX0_digest_90 ⟨Nat.zero_le _, Nat.zero_le _⟩ ?_
    exact zr_l hx hb hr hlocks dX0_digest_93 (by unfold dig dig5 dig4; first | rw [if_pos (by omega), e1z, e2z] | rw [if_neg (by omega), e1z, e2z, fdR, if_pos (by omega)])
  · refine lv_lload_n hx hb dX0_digest_78 rfl (lv_at hl 1 rfl) ?_
    refine lv_aload_n hx hb dX0_digest_79 rfl (lv_at hl 2 rfl) ?_
    refine lv_iload_n hx hb dX0_digest_80 rfl (lv_at hl 0 rfl) ?_
    refine zV_l (As := [.int (iI (fl u))]) (rest := [.long (jI (mx (mx (dgm u (mx (mx (dgp u (mx 1811 (zpg u)) (zpg u)) (zse u)) (zdr u)) (zpg u + 1)) (diR u 0 (zpg u))) (brR u 0 (zpg u))))]) ⟨hx, hb, hml, hown, hts⟩ (PX g u) (PX_blind g u) (PX_mv hPX) (rcX hK hP) (c_X0_findLost l g u (fl u) hI (by omega)) (cwV 1 hts gX0_digest_X0_findLost rfl rfl rfl (by decide +kernel) ⟨Nat.le_of_ble_eq_true rfl, Nat.le_of_ble_eq_true rfl⟩) rfl hl.1 rfl (Nat.le_of_ble_eq_true rfl) dX0_digest_81 ⟨Nat.zero_le _, Nat.zero_le _⟩ ?_
    refine zS_l (As := [.long (jI (mx (mx (dgm u (mx (mx (dgp u (mx 1811 (zpg u)) (zpg u)) (zse u)) (zdr u)) (zpg u + 1)) (diR u 0 (zpg u))) (brR u 0 (zpg u)))), .long (jI (fdR u (fl u)))]) (rest := []) ⟨hx, hb, hml, hown, hts⟩ (PT) PT_blind PT_mv  (c_X0_mix l g (mx (mx (dgm u (mx (mx (dgp u (mx 1811 (zpg u)) (zpg u)) (zse u)) (zdr u)) (zpg u + 1)) (diR u 0 (zpg u))) (brR u 0 (zpg u))) (fdR u (fl u))) (va_cwS 2 hts gX0_digest_X0_mix rfl rfl rfl (by decide +kernel) ⟨Nat.le_of_ble_eq_true rfl, Nat.le_of_ble_eq_true rfl⟩) rfl hl.1 rfl (Nat.le_of_ble_eq_true rfl) dX0_digest_84 ⟨Nat.zero_le _, Nat.zero_le _⟩ ?_
    refine lv_lstore_n (lv' := [(1, .long (jI (mx (mx (mx (dgm u (mx (mx (dgp u (mx 1811 (zpg u)) (zpg u)) (zse u)) (zdr u)) (zpg u + 1)) (diR u 0 (zpg u))) (brR u 0 (zpg u))) (fdR u (fl u))))), (3, .int (iI (fl u))), (0, .ref (gX g 0))]) hx hb dX0_digest_87 rfl hl (by decide) rfl (fun ls hl => ?_)
    refine lv_aload_n hx hb dX0_digest_88 rfl (lv_at hl 2 rfl) ?_
    refine lv_lload_n hx hb dX0_digest_89 rfl (lv_at hl 0 rfl) ?_
    refine zV_l (As := [.long (jI (mx (mx (mx (dgm u (mx (mx (dgp u (mx 1811 (zpg u)) (zpg u)) (zse u)) (zdr u)) (zpg u + 1)) (diR u 0 (zpg u))) (brR u 0 (zpg u))) (fdR u (fl u))))]) (rest := []) ⟨hx, hb, hml, hown, hts⟩ (PY g u) (PY_blind g u) (PY_mv hP hK) (rcX hK hP) (c_X0_mixBuffer l g u (mx (mx (mx (dgm u (mx (mx (dgp u (mx 1811 (zpg u)) (zpg u)) (zse u)) (zdr u)) (zpg u + 1)) (diR u 0 (zpg u))) (brR u 0 (zpg u))) (fdR u (fl u))) hI) (cwV 1 hts gX0_digest_X0_mixBuffer rfl rfl rfl (by decide +kernel) ⟨Nat.le_of_ble_eq_true rfl, Nat.le_of_ble_eq_true rfl⟩) rfl hl.1 rfl (Nat.le_of_ble_eq_true rfl) dX0_digest_90 ⟨Nat.zero_le _, Nat.zero_le _⟩ ?_
    exact zr_l hx hb hr hlocks dX0_digest_93 (by unfold dig dig5 dig4; first | rw [if_pos (by omega), e1z, e2z] | rw [if_neg (by omega), e1z, e2z, fdR, if_pos (by omega)])
