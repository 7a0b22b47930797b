/-! the class, by program (genx.py): X0_setFix X0_removeFix X0_lastFix X0_firstFixAfter X0_fix X0_momentExists X0_movement X0_legs -/
set_option maxHeartbeats 4000000 in
set_option maxRecDepth 100000 in
theorem c_X0_setFix (l : Launch) (g : GG) (u : ST) (hg : gOk g) (k : Int) (n : Int) (e9z : Int) (hI : Inv u) (hb_k : B32 k) (hb_n : B32 n) (hb_e9 : B32 e9z) : Met l yX0_setFix wsX0_setFix (k2_rm 2 43) (va_Pc [.ref (gX g 0), .int (iI k), .int (iI n), .int (iI e9z)] (fun U => PY g u U U.heap)) (va_Ql (fun r (_ : Unit) => r = jI (sfR u k n e9z)) (fun _ t => (fun H9 => va_P (gD g) vwCl (wX g (sfU u k n e9z)) H9) t.heap) (aX g)) 0 0 (aX g) := by
  refine Met.ofW (cc := cX0_setFix) (maxL := 4) (ret := (some .long)) (by decide) rfl ?_
  intro pp ee s mm args below meth cc9 s₁ B hml hv
  obtain ⟨rfl, hPX⟩ := hv
  obtain ⟨hP, hK⟩ := id hPX
  have hx := B.exec
  have hb := B.bytes
  have hr := B.returns
  have hts := atoms_spec (ws := wsX0_setFix) B.pre
  have hown : s.vm.findClass RX0 = some mm.cls := findClass_of_methodNamed B.named
  have hlocks := B.notSynchronized
  have hin : ∀ w ∈ wsX00, w ∈ wsX0_setFix := fun w h => List.mem_cons_of_mem _ (List.mem_append_right _ h)
  have m124 : Cond.constantLong RX0 124 (-9000000000000000003) ∈ wsX0_setFix := by decide +kernel
  have m26 : Cond.fieldLink RX0 26 "TraverseBoard" "fixed" "[Z" ∈ wsX0_setFix := by decide +kernel
  have m29 : Cond.fieldLink RX0 29 "TraverseBoard" "fixNorths" "[I" ∈ wsX0_setFix := by decide +kernel
  have m32 : Cond.fieldLink RX0 32 "TraverseBoard" "fixEasts" "[I" ∈ wsX0_setFix := by decide +kernel
  have m39 : Cond.constantLong RX0 39 (-9000000000000000001) ∈ wsX0_setFix := by decide +kernel
  have hS : va_S (aX g) s.heap s.heap [] := va_S.rf
  have hi_bl := iv_bl hI
  have hi_pg := iv_pg hI
  have hi_se := iv_se hI
  have hi_dr := iv_dr hI
  have hl := lv_entry ([.ref (gX g 0), .int (iI k), .int (iI n), .int (iI e9z)]) (n := 4) (Nat.le_of_ble_eq_true rfl)
  rw [lg_entry_eq]
  generalize (lg_sl ([.ref (gX g 0), .int (iI k), .int (iI n), .int (iI e9z)]) ++ List.replicate (4 - (lg_sl ([.ref (gX g 0), .int (iI k), .int (iI n), .int (iI e9z)])).length) Slot.unset).toArray = ls at hl ⊢
  have hl : lv_has ls 4 [(0, .ref (gX g 0)), (1, .int (iI k)), (2, .int (iI n)), (3, .int (iI e9z))] := hl
  refine lv_aload_n hx hb dX0_setFix_0 rfl (lv_at hl 0 rfl) ?_
  refine lv_iload_n hx hb dX0_setFix_1 rfl (lv_at hl 1 rfl) ?_
  refine zV_z (As := [.int (iI k)]) (rest := []) ⟨hx, hb, hml, hown, hts⟩ (PY g u) (PY_blind g u) (PY_mv hP hK) (rcX hK hP) (c_X0_fixCanStand l g u k hI (by omega)) (cwV 1 hts gX0_setFix_X0_fixCanStand rfl rfl rfl (by decide +kernel) ⟨Nat.le_of_ble_eq_true rfl, Nat.le_of_ble_eq_true rfl⟩) rfl hl.1 rfl (Nat.le_of_ble_eq_true rfl) dX0_setFix_2 ⟨Nat.zero_le _, Nat.zero_le _⟩ (fun c_1 => ?_) (fun c_1 => ?_)
  · refine z_if_ne (tgt := 12) hx hb dX0_setFix_5 (by decide) ⟨by decide, by decide⟩ (fun c_2 => ?_) (fun c_2 => (absurd c_2 (by decide)))
    refine lv_iload_n hx hb dX0_setFix_12 rfl (lv_at hl 2 rfl) ?_
    refine zS_z (As := [.int (iI n)]) (rest := []) ⟨hx, hb, hml, hown, hts⟩ (PT) PT_blind PT_mv  (c_X0_isCoordinate l g n (by omega)) (va_cwS 1 hts gX0_setFix_X0_isCoordinate rfl rfl rfl (by decide +kernel) ⟨Nat.le_of_ble_eq_true rfl, Nat.le_of_ble_eq_true rfl⟩) rfl hl.1 rfl (Nat.le_of_ble_eq_true rfl) dX0_setFix_13 ⟨Nat.zero_le _, Nat.zero_le _⟩ (fun c_3 => ?_) (fun c_3 => ?_)
    · refine z_if_eq (tgt := 26) hx hb dX0_setFix_16 (by decide) ⟨by decide, by decide⟩ (fun c_4 => (absurd c_4 (by decide))) (fun c_4 => ?_)
      refine lv_iload_n hx hb dX0_setFix_19 rfl (lv_at hl 3 rfl) ?_
      refine zS_z (As := [.int (iI e9z)]) (rest := []) ⟨hx, hb, hml, hown, hts⟩ (PT) PT_blind PT_mv  (c_X0_isCoordinate l g e9z (by omega)) (va_cwS 1 hts gX0_setFix_X0_isCoordinate rfl rfl rfl (by decide +kernel) ⟨Nat.le_of_ble_eq_true rfl, Nat.le_of_ble_eq_true rfl⟩) rfl hl.1 rfl (Nat.le_of_ble_eq_true rfl) dX0_setFix_20 ⟨Nat.zero_le _, Nat.zero_le _⟩ (fun c_5 => ?_) (fun c_5 => ?_)
      · refine z_if_ne (tgt := 30) hx hb dX0_setFix_23 (by decide) ⟨by decide, by decide⟩ (fun c_6 => ?_) (fun c_6 => (absurd c_6 (by decide)))
        refine lv_aload_n hx hb dX0_setFix_30 rfl (lv_at hl 0 rfl) ?_
        refine gf_X0_26 hx hb hts hin m26 hown hK hP dX0_setFix_31 ?_
        refine lv_iload_n hx hb dX0_setFix_34 rfl (lv_at hl 1 rfl) ?_
        refine z_iconst hx hb dX0_setFix_35 ?_
        refine as_X0_6 hx hb hK hP (wX_D hg _) hS ⟨by omega, by omega⟩ (by decide +kernel) dX0_setFix_36 (fun H locs hP hS => ?_)
        refine lv_aload_n hx hb dX0_setFix_37 rfl (lv_at hl 0 rfl) ?_
        refine gf_X0_29 hx hb hts hin m29 hown hK hP dX0_setFix_38 ?_
        refine lv_iload_n hx hb dX0_setFix_41 rfl (lv_at hl 1 rfl) ?_
        refine lv_iload_n hx hb dX0_setFix_42 rfl (lv_at hl 2 rfl) ?_
        refine as_X0_7 hx hb hK hP (wX_D hg _) hS ⟨by omega, by omega⟩ dX0_setFix_43 (fun H locs hP hS => ?_)
        refine lv_aload_n hx hb dX0_setFix_44 rfl (lv_at hl 0 rfl) ?_
        refine gf_X0_32 hx hb hts hin m32 hown hK hP dX0_setFix_45 ?_
        refine lv_iload_n hx hb dX0_setFix_48 rfl (lv_at hl 1 rfl) ?_
        refine lv_iload_n hx hb dX0_setFix_49 rfl (lv_at hl 3 rfl) ?_
        refine as_X0_8 hx hb hK hP (wX_D hg _) hS ⟨by omega, by omega⟩ dX0_setFix_50 (fun H locs hP hS => ?_)
        refine lv_aload_n hx hb dX0_setFix_51 rfl (lv_at hl 0 rfl) ?_
        refine zV_i (As := []) (rest := []) ⟨hx, hb, hml, hown, hts⟩ (PY g (ufe (ufn (ufx u (zup (zfx u) k 1)) (zup (zfn (ufx u (zup (zfx u) k 1))) k n)) (zup (zfe (ufn (ufx u (zup (zfx u) k 1)) (zup (zfn (ufx u (zup (zfx u) k 1))) k n))) k e9z))) (PY_blind g (ufe (ufn (ufx u (zup (zfx u) k 1)) (zup (zfn (ufx u (zup (zfx u) k 1))) k n)) (zup (zfe (ufn (ufx u (zup (zfx u) k 1)) (zup (zfn (ufx u (zup (zfx u) k 1))) k n))) k e9z))) (PY_mv hP hK) (rcX hK hP) (c_X0_fixCount l g ((ufe (ufn (ufx u (zup (zfx u) k 1)) (zup (zfn (ufx u (zup (zfx u) k 1))) k n)) (zup (zfe (ufn (ufx u (zup (zfx u) k 1)) (zup (zfn (ufx u (zup (zfx u) k 1))) k n))) k e9z))) (inv_sf hI k n e9z (by omega) (by omega))) (cwV 0 hts gX0_setFix_X0_fixCount rfl rfl rfl (by decide +kernel) ⟨Nat.le_of_ble_eq_true rfl, Nat.le_of_ble_eq_true rfl⟩) rfl hl.1 rfl (Nat.le_of_ble_eq_true rfl) dX0_setFix_52 ⟨Nat.zero_le _, Nat.zero_le _⟩ ?_
        refine z_i2l hx hb (sf_b hI k) dX0_setFix_55 ?_
        exact zw_l (Post := (fun H9 => va_P (gD g) vwCl (wX g (sfU u k n e9z)) H9)) hx hb hr hlocks dX0_setFix_56 hS (by unfold sfR eOR eNM; (repeat' split) <;> first | rfl | omega) (by unfold sfU; split <;> first | exact hP | (exfalso; omega))
      · refine z_if_ne (tgt := 30) hx hb dX0_setFix_23 (by decide) ⟨by decide, by decide⟩ (fun c_7 => (absurd c_7 (by decide))) (fun c_7 => ?_)
        refine lv_ldc2 (v := jI (-9000000000000000001)) hx hb hown (hts _ m39) dX0_setFix_26 ?_
        exact zw_l (Post := (fun H9 => va_P (gD g) vwCl (wX g (sfU u k n e9z)) H9)) hx hb hr hlocks dX0_setFix_29 hS (by unfold sfR eOR eNM; (repeat' split) <;> first | rfl | omega) (by unfold sfU; split <;> first | exact hP | (exfalso; omega))
    · refine z_if_eq (tgt := 26) hx hb dX0_setFix_16 (by decide) ⟨by decide, by decide⟩ (fun c_8 => ?_) (fun c_8 => (absurd c_8 (by decide)))
      refine lv_ldc2 (v := jI (-9000000000000000001)) hx hb hown (hts _ m39) dX0_setFix_26 ?_
      exact zw_l (Post := (fun H9 => va_P (gD g) vwCl (wX g (sfU u k n e9z)) H9)) hx hb hr hlocks dX0_setFix_29 hS (by unfold sfR eOR eNM; (repeat' split) <;> first | rfl | omega) (by unfold sfU; split <;> first | exact hP | (exfalso; omega))
  · refine z_if_ne (tgt := 12) hx hb dX0_setFix_5 (by decide) ⟨by decide, by decide⟩ (fun c_9 => (absurd c_9 (by decide))) (fun c_9 => ?_)
    refine lv_ldc2 (v := jI (-9000000000000000003)) hx hb hown (hts _ m124) dX0_setFix_8 ?_
    exact zw_l (Post := (fun H9 => va_P (gD g) vwCl (wX g (sfU u k n e9z)) H9)) hx hb hr hlocks dX0_setFix_11 hS (by unfold sfR eOR eNM; (repeat' split) <;> first | rfl | omega) (by unfold sfU; split <;> first | exact hP | (exfalso; omega))
set_option maxHeartbeats 4000000 in
set_option maxRecDepth 100000 in
theorem c_X0_removeFix (l : Launch) (g : GG) (u : ST) (hg : gOk g) (k : Int) (hI : Inv u) (hb_k : B32 k) : Met l yX0_removeFix wsX0_removeFix (k2_rm 2 43) (va_Pc [.ref (gX g 0), .int (iI k)] (fun U => PY g u U U.heap)) (va_Ql (fun r (_ : Unit) => r = jI (rfR u k)) (fun _ t => (fun H9 => va_P (gD g) vwCl (wX g (rfU u k)) H9) t.heap) (aX g)) 0 0 (aX g) := by
  refine Met.ofW (cc := cX0_removeFix) (maxL := 2) (ret := (some .long)) (by decide) rfl ?_
  intro pp ee s mm args below meth cc9 s₁ B hml hv
  obtain ⟨rfl, hPX⟩ := hv
  obtain ⟨hP, hK⟩ := id hPX
  have hx := B.exec
  have hb := B.bytes
  have hr := B.returns
  have hts := atoms_spec (ws := wsX0_removeFix) B.pre
  have hown : s.vm.findClass RX0 = some mm.cls := findClass_of_methodNamed B.named
  have hlocks := B.notSynchronized
  have hin : ∀ w ∈ wsX00, w ∈ wsX0_removeFix := fun w h => List.mem_cons_of_mem _ (List.mem_append_right _ h)
  have m108 : Cond.constantLong RX0 108 (-9000000000000000007) ∈ wsX0_removeFix := by decide +kernel
  have m124 : Cond.constantLong RX0 124 (-9000000000000000003) ∈ wsX0_removeFix := by decide +kernel
  have m26 : Cond.fieldLink RX0 26 "TraverseBoard" "fixed" "[Z" ∈ wsX0_removeFix := by decide +kernel
  have hS : va_S (aX g) s.heap s.heap [] := va_S.rf
  have hi_bl := iv_bl hI
  have hi_pg := iv_pg hI
  have hi_se := iv_se hI
  have hi_dr := iv_dr hI
  have hl := lv_entry ([.ref (gX g 0), .int (iI k)]) (n := 2) (Nat.le_of_ble_eq_true rfl)
  rw [lg_entry_eq]
  generalize (lg_sl ([.ref (gX g 0), .int (iI k)]) ++ List.replicate (2 - (lg_sl ([.ref (gX g 0), .int (iI k)])).length) Slot.unset).toArray = ls at hl ⊢
  have hl : lv_has ls 2 [(0, .ref (gX g 0)), (1, .int (iI k))] := hl
  refine lv_aload_n hx hb dX0_removeFix_0 rfl (lv_at hl 0 rfl) ?_
  refine lv_iload_n hx hb dX0_removeFix_1 rfl (lv_at hl 1 rfl) ?_
  refine zV_z (As := [.int (iI k)]) (rest := []) ⟨hx, hb, hml, hown, hts⟩ (PY g u) (PY_blind g u) (PY_mv hP hK) (rcX hK hP) (c_X0_fixCanStand l g u k hI (by omega)) (cwV 1 hts gX0_removeFix_X0_fixCanStand rfl rfl rfl (by decide +kernel) ⟨Nat.le_of_ble_eq_true rfl, Nat.le_of_ble_eq_true rfl⟩) rfl hl.1 rfl (Nat.le_of_ble_eq_true rfl) dX0_removeFix_2 ⟨Nat.zero_le _, Nat.zero_le _⟩ (fun c_1 => ?_) (fun c_1 => ?_)
  · refine z_if_ne (tgt := 12) hx hb dX0_removeFix_5 (by decide) ⟨by decide, by decide⟩ (fun c_2 => ?_) (fun c_2 => (absurd c_2 (by decide)))
    refine lv_aload_n hx hb dX0_removeFix_12 rfl (lv_at hl 0 rfl) ?_
    refine gf_X0_26 hx hb hts hin m26 hown hK hP dX0_removeFix_13 ?_
    refine lv_iload_n hx hb dX0_removeFix_16 rfl (lv_at hl 1 rfl) ?_
    refine al_X0_6 hx hb hK hP ⟨by omega, by omega⟩ dX0_removeFix_17 ?_
    have hv_3 := iv_fx hI k
    refine z_if_ne (tgt := 25) hx hb dX0_removeFix_18 (by decide) (by omega) (fun c_4 => ?_) (fun c_4 => ?_)
    · refine lv_aload_n hx hb dX0_removeFix_25 rfl (lv_at hl 0 rfl) ?_
      refine gf_X0_26 hx hb hts hin m26 hown hK hP dX0_removeFix_26 ?_
      refine lv_iload_n hx hb dX0_removeFix_29 rfl (lv_at hl 1 rfl) ?_
      refine z_iconst hx hb dX0_removeFix_30 ?_
      refine as_X0_6 hx hb hK hP (wX_D hg _) hS ⟨by omega, by omega⟩ (by decide +kernel) dX0_removeFix_31 (fun H locs hP hS => ?_)
      refine lv_aload_n hx hb dX0_removeFix_32 rfl (lv_at hl 0 rfl) ?_
      refine zV_i (As := []) (rest := []) ⟨hx, hb, hml, hown, hts⟩ (PY g (ufx u (zup (zfx u) k 0))) (PY_blind g (ufx u (zup (zfx u) k 0))) (PY_mv hP hK) (rcX hK hP) (c_X0_fixCount l g ((ufx u (zup (zfx u) k 0))) (inv_rf hI k (by omega))) (cwV 0 hts gX0_removeFix_X0_fixCount rfl rfl rfl (by decide +kernel) ⟨Nat.le_of_ble_eq_true rfl, Nat.le_of_ble_eq_true rfl⟩) rfl hl.1 rfl (Nat.le_of_ble_eq_true rfl) dX0_removeFix_33 ⟨Nat.zero_le _, Nat.zero_le _⟩ ?_
      refine z_i2l hx hb (rf_b hI k) dX0_removeFix_36 ?_
      exact zw_l (Post := (fun H9 => va_P (gD g) vwCl (wX g (rfU u k)) H9)) hx hb hr hlocks dX0_removeFix_37 hS (by unfold rfR eNO eNM; (repeat' split) <;> first | rfl | omega) (by unfold rfU; split <;> first | exact hP | (exfalso; omega))
    · refine lv_ldc2 (v := jI (-9000000000000000007)) hx hb hown (hts _ m108) dX0_removeFix_21 ?_
      exact zw_l (Post := (fun H9 => va_P (gD g) vwCl (wX g (rfU u k)) H9)) hx hb hr hlocks dX0_removeFix_24 hS (by unfold rfR eNO eNM; (repeat' split) <;> first | rfl | omega) (by unfold rfU; split <;> first | exact hP | (exfalso; omega))
  · refine z_if_ne (tgt := 12) hx hb dX0_removeFix_5 (by decide) ⟨by decide, by decide⟩ (fun c_5 => (absurd c_5 (by decide))) (fun c_5 => ?_)
    refine lv_ldc2 (v := jI (-9000000000000000003)) hx hb hown (hts _ m124) dX0_removeFix_8 ?_
    exact zw_l (Post := (fun H9 => va_P (gD g) vwCl (wX g (rfU u k)) H9)) hx hb hr hlocks dX0_removeFix_11 hS (by unfold rfR eNO eNM; (repeat' split) <;> first | rfl | omega) (by unfold rfU; split <;> first | exact hP | (exfalso; omega))
set_option maxHeartbeats 4000000 in
set_option maxRecDepth 100000 in
theorem c_X0_lastFix (l : Launch) (g : GG) (u : ST) (k : Int) (hI : Inv u) (k0z : 0 ≤ k) (k1z : k ≤ zpg u) : Met l yX0_lastFix wsX0_lastFix (k2_rm 0 0) (va_Pc [.ref (gX g 0), .int (iI k)] (fun U => PY g u U U.heap)) (vp_Si (fun r => r = iI (la u k))) 0 0 (fun _ => False) := by
  refine Met.ofW (cc := cX0_lastFix) (maxL := 3) (ret := (some .int)) (by decide) rfl ?_
  intro pp ee s mm args below meth cc9 s₁ B hml hv
  obtain ⟨rfl, hPX⟩ := hv
  obtain ⟨hP, hK⟩ := id hPX
  have hx := B.exec
  have hb := B.bytes
  have hr := B.returns
  have hts := atoms_spec (ws := wsX0_lastFix) B.pre
  have hown : s.vm.findClass RX0 = some mm.cls := findClass_of_methodNamed B.named
  have hlocks := B.notSynchronized
  have hin : ∀ w ∈ wsX00, w ∈ wsX0_lastFix := fun w h => List.mem_cons_of_mem _ (List.mem_append_right _ h)
  have m26 : Cond.fieldLink RX0 26 "TraverseBoard" "fixed" "[Z" ∈ wsX0_lastFix := by decide +kernel
  have hi_bl := iv_bl hI
  have hi_pg := iv_pg hI
  have hi_se := iv_se hI
  have hi_dr := iv_dr hI
  have hl := lv_entry ([.ref (gX g 0), .int (iI k)]) (n := 3) (Nat.le_of_ble_eq_true rfl)
  rw [lg_entry_eq]
  generalize (lg_sl ([.ref (gX g 0), .int (iI k)]) ++ List.replicate (3 - (lg_sl ([.ref (gX g 0), .int (iI k)])).length) Slot.unset).toArray = ls at hl ⊢
  have hl : lv_has ls 3 [(0, .ref (gX g 0)), (1, .int (iI k))] := hl
  refine lv_iload_n hx hb dX0_lastFix_0 rfl (lv_at hl 1 rfl) ?_
  refine lv_istore_n (lv' := [(2, .int (iI k)), (0, .ref (gX g 0)), (1, .int (iI k))]) hx hb dX0_lastFix_1 rfl hl (by decide) rfl (fun ls hl => ?_)
  refine z_loop1 (nL := 3) (fun t => (0 ≤ t ∧ t ≤ k) ∧ (la u k = lf (zfx u) t)) (fun t => t.toNat) (fun t => [(0, .ref (gX g 0)), (1, .int (iI k)), (2, .int (iI t))]) (fun t ls hinv hl ih_2 => ?_) k ls ⟨(by omega), (by rfl)⟩ (lv_sub hl [1, 2, 0] rfl)
  have hinv : (0 ≤ t ∧ t ≤ k) ∧ (la u k = lf (zfx u) t) := hinv
  obtain ⟨q1z, q3z⟩ := hinv
  have hl : lv_has ls 3 [(0, .ref (gX g 0)), (1, .int (iI k)), (2, .int (iI t))] := hl
  have hl9 := iv_fx hI t
  refine lv_iload_n hx hb dX0_lastFix_2 rfl (lv_at hl 2 rfl) ?_
  refine z_if_le (tgt := 21) hx hb dX0_lastFix_3 (by decide) (by omega) (fun c_1 => ?_) (fun c_1 => ?_)
  · refine lv_iload_n hx hb dX0_lastFix_21 rfl (lv_at hl 2 rfl) ?_
    exact zr_i hx hb hr hlocks dX0_lastFix_22 (by rw [q3z]; first | (rw [lf_0 (by omega)]; omega) | rw [lf_stop (by omega) (by omega)])
  · refine lv_aload_n hx hb dX0_lastFix_6 rfl (lv_at hl 0 rfl) ?_
    refine gf_X0_26 hx hb hts hin m26 hown hK hP dX0_lastFix_7 ?_
    refine lv_iload_n hx hb dX0_lastFix_10 rfl (lv_at hl 2 rfl) ?_
    refine al_X0_6 hx hb hK hP ⟨by omega, by omega⟩ dX0_lastFix_11 ?_
    have hv_2 := iv_fx hI t
    refine z_if_ne (tgt := 21) hx hb dX0_lastFix_12 (by decide) (by omega) (fun c_3 => ?_) (fun c_3 => ?_)
    · refine lv_iload_n hx hb dX0_lastFix_21 rfl (lv_at hl 2 rfl) ?_
      exact zr_i hx hb hr hlocks dX0_lastFix_22 (by rw [q3z]; first | (rw [lf_0 (by omega)]; omega) | rw [lf_stop (by omega) (by omega)])
    · refine z_iinc (k := 2) (lv' := [(2, .int (iI (t + (-1)))), (0, .ref (gX g 0)), (1, .int (iI k))]) hx hb dX0_lastFix_15 hl rfl (by decide) rfl (fun ls hl => ?_)
      refine lv_goto (tgt := 2) hx hb dX0_lastFix_18 (by decide) ?_
      exact ih_2 (t + (-1)) ls ⟨(by omega), (by rw [q3z]; exact lf_go (by omega) (by omega))⟩ (show (t + (-1)).toNat < t.toNat by omega) (lv_sub hl [1, 2, 0] rfl)
set_option maxHeartbeats 4000000 in
set_option maxRecDepth 100000 in
theorem c_X0_firstFixAfter (l : Launch) (g : GG) (u : ST) (k : Int) (hI : Inv u) (k0z : 0 ≤ k) (k1z : k ≤ zpg u) : Met l yX0_firstFixAfter wsX0_firstFixAfter (k2_rm 0 0) (va_Pc [.ref (gX g 0), .int (iI k)] (fun U => PY g u U U.heap)) (vp_Si (fun r => r = iI (nf u k))) 0 0 (fun _ => False) := by
  refine Met.ofW (cc := cX0_firstFixAfter) (maxL := 3) (ret := (some .int)) (by decide) rfl ?_
  intro pp ee s mm args below meth cc9 s₁ B hml hv
  obtain ⟨rfl, hPX⟩ := hv
  obtain ⟨hP, hK⟩ := id hPX
  have hx := B.exec
  have hb := B.bytes
  have hr := B.returns
  have hts := atoms_spec (ws := wsX0_firstFixAfter) B.pre
  have hown : s.vm.findClass RX0 = some mm.cls := findClass_of_methodNamed B.named
  have hlocks := B.notSynchronized
  have hin : ∀ w ∈ wsX00, w ∈ wsX0_firstFixAfter := fun w h => List.mem_cons_of_mem _ (List.mem_append_right _ h)
  have m26 : Cond.fieldLink RX0 26 "TraverseBoard" "fixed" "[Z" ∈ wsX0_firstFixAfter := by decide +kernel
  have m71 : Cond.fieldLink RX0 71 "TraverseBoard" "pegs" "I" ∈ wsX0_firstFixAfter := by decide +kernel
  have hi_bl := iv_bl hI
  have hi_pg := iv_pg hI
  have hi_se := iv_se hI
  have hi_dr := iv_dr hI
  have hl := lv_entry ([.ref (gX g 0), .int (iI k)]) (n := 3) (Nat.le_of_ble_eq_true rfl)
  rw [lg_entry_eq]
  generalize (lg_sl ([.ref (gX g 0), .int (iI k)]) ++ List.replicate (3 - (lg_sl ([.ref (gX g 0), .int (iI k)])).length) Slot.unset).toArray = ls at hl ⊢
  have hl : lv_has ls 3 [(0, .ref (gX g 0)), (1, .int (iI k))] := hl
  refine lv_iload_n hx hb dX0_firstFixAfter_0 rfl (lv_at hl 1 rfl) ?_
  refine z_iconst hx hb dX0_firstFixAfter_1 ?_
  refine z_iadd hx hb dX0_firstFixAfter_2 ?_
  refine lv_istore_n (lv' := [(2, .int (iI (k + 1))), (0, .ref (gX g 0)), (1, .int (iI k))]) hx hb dX0_firstFixAfter_3 rfl hl (by decide) rfl (fun ls hl => ?_)
  refine z_loop1 (nL := 3) (fun t => (k + 1 ≤ t ∧ t ≤ zpg u + 1) ∧ (nf u k = ff (zfx u) t (zpg u + 1))) (fun t => (zpg u + 1 - t).toNat) (fun t => [(0, .ref (gX g 0)), (1, .int (iI k)), (2, .int (iI t))]) (fun t ls hinv hl ih_4 => ?_) (k + 1) ls ⟨(by omega), (by rfl)⟩ (lv_sub hl [1, 2, 0] rfl)
  have hinv : (k + 1 ≤ t ∧ t ≤ zpg u + 1) ∧ (nf u k = ff (zfx u) t (zpg u + 1)) := hinv
  obtain ⟨q1z, q3z⟩ := hinv
  have hl : lv_has ls 3 [(0, .ref (gX g 0)), (1, .int (iI k)), (2, .int (iI t))] := hl
  have hl9 := iv_fx hI t
  refine lv_iload_n hx hb dX0_firstFixAfter_4 rfl (lv_at hl 2 rfl) ?_
  refine lv_aload_n hx hb dX0_firstFixAfter_5 rfl (lv_at hl 0 rfl) ?_
  refine gf_X0_71 (z := zpg u) hx hb hts hin m71 hown hK hP rfl dX0_firstFixAfter_6 ?_
  refine z_icmp_gt (tgt := 29) hx hb dX0_firstFixAfter_9 (by decide) (by omega) (by omega) (fun c_1 => ?_) (fun c_1 => ?_)
  · refine z_iconst hx hb dX0_firstFixAfter_29 ?_
    exact zr_i hx hb hr hlocks dX0_firstFixAfter_30 (by rw [q3z, ff_0 (by omega)])
  · refine lv_aload_n hx hb dX0_firstFixAfter_12 rfl (lv_at hl 0 rfl) ?_
    refine gf_X0_26 hx hb hts hin m26 hown hK hP dX0_firstFixAfter_13 ?_
    refine lv_iload_n hx hb dX0_firstFixAfter_16 rfl (lv_at hl 2 rfl) ?_
    refine al_X0_6 hx hb hK hP ⟨by omega, by omega⟩ dX0_firstFixAfter_17 ?_
    have hv_2 := iv_fx hI t
    refine z_if_eq (tgt := 23) hx hb dX0_firstFixAfter_18 (by decide) (by omega) (fun c_3 => ?_) (fun c_3 => ?_)
    · refine z_iinc (k := 2) (lv' := [(2, .int (iI (t + 1))), (0, .ref (gX g 0)), (1, .int (iI k))]) hx hb dX0_firstFixAfter_23 hl rfl (by decide) rfl (fun ls hl => ?_)
      refine lv_goto (tgt := 4) hx hb dX0_firstFixAfter_26 (by decide) ?_
      exact ih_4 (t + 1) ls ⟨(by omega), (by rw [q3z]; exact ff_go (by omega) (by omega))⟩ (show (zpg u + 1 - (t + 1)).toNat < (zpg u + 1 - t).toNat by omega) (lv_sub hl [1, 2, 0] rfl)
    · refine lv_iload_n hx hb dX0_firstFixAfter_21 rfl (lv_at hl 2 rfl) ?_
      exact zr_i hx hb hr hlocks dX0_firstFixAfter_22 (by rw [q3z, ff_stop (by omega) (by omega)])
set_option maxHeartbeats 4000000 in
set_option maxRecDepth 100000 in
theorem c_X0_fix (l : Launch) (g : GG) (u : ST) (k : Int) (ax : Int) (hI : Inv u) (k0z : 0 ≤ k) (k1z : k ≤ zpg u) (hax : ax = 8 ∨ ax = 0) : Met l yX0_fix wsX0_fix (k2_rm 0 0) (va_Pc [.ref (gX g 0), .int (iI k), .int (iI ax)] (fun U => PY g u U U.heap)) (vp_Si (fun r => r = iI (fxc u ax k))) 0 0 (fun _ => False) := by
  refine Met.ofW (cc := cX0_fix) (maxL := 3) (ret := (some .int)) (by decide) rfl ?_
  intro pp ee s mm args below meth cc9 s₁ B hml hv
  obtain ⟨rfl, hPX⟩ := hv
  obtain ⟨hP, hK⟩ := id hPX
  have hx := B.exec
  have hb := B.bytes
  have hr := B.returns
  have hts := atoms_spec (ws := wsX0_fix) B.pre
  have hown : s.vm.findClass RX0 = some mm.cls := findClass_of_methodNamed B.named
  have hlocks := B.notSynchronized
  have hin : ∀ w ∈ wsX00, w ∈ wsX0_fix := fun w h => List.mem_cons_of_mem _ (List.mem_append_right _ h)
  have m29 : Cond.fieldLink RX0 29 "TraverseBoard" "fixNorths" "[I" ∈ wsX0_fix := by decide +kernel
  have m32 : Cond.fieldLink RX0 32 "TraverseBoard" "fixEasts" "[I" ∈ wsX0_fix := by decide +kernel
  have hi_bl := iv_bl hI
  have hi_pg := iv_pg hI
  have hi_se := iv_se hI
  have hi_dr := iv_dr hI
  have hl := lv_entry ([.ref (gX g 0), .int (iI k), .int (iI ax)]) (n := 3) (Nat.le_of_ble_eq_true rfl)
  rw [lg_entry_eq]
  generalize (lg_sl ([.ref (gX g 0), .int (iI k), .int (iI ax)]) ++ List.replicate (3 - (lg_sl ([.ref (gX g 0), .int (iI k), .int (iI ax)])).length) Slot.unset).toArray = ls at hl ⊢
  have hl : lv_has ls 3 [(0, .ref (gX g 0)), (1, .int (iI k)), (2, .int (iI ax))] := hl
  refine lv_iload_n hx hb dX0_fix_0 rfl (lv_at hl 2 rfl) ?_
  refine z_bipush hx hb dX0_fix_1 (by decide +kernel) ?_
  refine z_icmp_ne (tgt := 15) hx hb dX0_fix_3 (by decide) (by omega) ⟨by decide, by decide⟩ (fun c_1 => ?_) (fun c_1 => ?_)
  · refine lv_aload_n hx hb dX0_fix_15 rfl (lv_at hl 0 rfl) ?_
    refine gf_X0_32 hx hb hts hin m32 hown hK hP dX0_fix_16 ?_
    refine lv_iload_n hx hb dX0_fix_19 rfl (lv_at hl 1 rfl) ?_
    refine al_X0_8 hx hb hK hP ⟨by omega, by omega⟩ dX0_fix_20 ?_
    have hv_2 := iv_fe hI k
    exact zr_i hx hb hr hlocks dX0_fix_21 (by unfold fxc; split <;> first | rfl | omega)
  · refine lv_aload_n hx hb dX0_fix_6 rfl (lv_at hl 0 rfl) ?_
    refine gf_X0_29 hx hb hts hin m29 hown hK hP dX0_fix_7 ?_
    refine lv_iload_n hx hb dX0_fix_10 rfl (lv_at hl 1 rfl) ?_
    refine al_X0_7 hx hb hK hP ⟨by omega, by omega⟩ dX0_fix_11 ?_
    have hv_3 := iv_fn hI k
    refine lv_goto (tgt := 21) hx hb dX0_fix_12 (by decide) ?_
    exact zr_i hx hb hr hlocks dX0_fix_21 (by unfold fxc; split <;> first | rfl | omega)
set_option maxHeartbeats 4000000 in
set_option maxRecDepth 100000 in
theorem c_X0_momentExists (l : Launch) (g : GG) (u : ST) (v : Int) (hI : Inv u) (hb_v : B32 v) : Met l yX0_momentExists wsX0_momentExists (k2_rm 1 22) (va_Pc [.ref (gX g 0), .int (iI v)] (fun U => PY g u U U.heap)) (vp_Si (fun r => (r = iI 1 ∧ (0 ≤ v ∧ v ≤ zpg u)) ∨ (r = iI 0 ∧ ¬ (0 ≤ v ∧ v ≤ zpg u)))) 0 0 (fun _ => False) := by
  refine Met.ofW (cc := cX0_momentExists) (maxL := 2) (ret := (some .boolean)) (by decide) rfl ?_
  intro pp ee s mm args below meth cc9 s₁ B hml hv
  obtain ⟨rfl, hPX⟩ := hv
  obtain ⟨hP, hK⟩ := id hPX
  have hx := B.exec
  have hb := B.bytes
  have hr := B.returns
  have hts := atoms_spec (ws := wsX0_momentExists) B.pre
  have hown : s.vm.findClass RX0 = some mm.cls := findClass_of_methodNamed B.named
  have hlocks := B.notSynchronized
  have hin : ∀ w ∈ wsX00, w ∈ wsX0_momentExists := fun w h => List.mem_cons_of_mem _ (List.mem_append_right _ h)
  have m71 : Cond.fieldLink RX0 71 "TraverseBoard" "pegs" "I" ∈ wsX0_momentExists := by decide +kernel
  have hi_bl := iv_bl hI
  have hi_pg := iv_pg hI
  have hi_se := iv_se hI
  have hi_dr := iv_dr hI
  have hl := lv_entry ([.ref (gX g 0), .int (iI v)]) (n := 2) (Nat.le_of_ble_eq_true rfl)
  rw [lg_entry_eq]
  generalize (lg_sl ([.ref (gX g 0), .int (iI v)]) ++ List.replicate (2 - (lg_sl ([.ref (gX g 0), .int (iI v)])).length) Slot.unset).toArray = ls at hl ⊢
  have hl : lv_has ls 2 [(0, .ref (gX g 0)), (1, .int (iI v))] := hl
  refine lv_iload_n hx hb dX0_momentExists_0 rfl (lv_at hl 1 rfl) ?_
  refine z_iconst hx hb dX0_momentExists_1 ?_
  refine lv_aload_n hx hb dX0_momentExists_2 rfl (lv_at hl 0 rfl) ?_
  refine gf_X0_71 (z := zpg u) hx hb hts hin m71 hown hK hP rfl dX0_momentExists_3 ?_
  refine zS_z (As := [.int (iI v), .int (iI 0), .int (iI (zpg u))]) (rest := []) ⟨hx, hb, hml, hown, hts⟩ (PT) PT_blind PT_mv  (c_X0_inRange l g v 0 (zpg u) (by omega) (by omega) (by omega)) (va_cwS 3 hts gX0_momentExists_X0_inRange rfl rfl rfl (by decide +kernel) ⟨Nat.le_of_ble_eq_true rfl, Nat.le_of_ble_eq_true rfl⟩) rfl hl.1 rfl (Nat.le_of_ble_eq_true rfl) dX0_momentExists_6 ⟨Nat.zero_le _, Nat.zero_le _⟩ (fun c_1 => ?_) (fun c_1 => ?_)
  · exact zr_1 hx hb hr hlocks dX0_momentExists_9 (by omega)
  · exact zr_0 hx hb hr hlocks dX0_momentExists_9 (by omega)
set_option maxHeartbeats 4000000 in
set_option maxRecDepth 100000 in
theorem c_X0_movement (l : Launch) (g : GG) (p : Int) (v : Int) (ax : Int) (k0z : -1000 ≤ p ∧ p ≤ 1000) (k1z : 0 ≤ v ∧ v ≤ 200) (hax : ax = 8 ∨ ax = 0) : Met l yX0_movement wsX0_movement (k2_rm 1 22) (va_Pc [.int (iI p), .int (iI v), .int (iI ax)] (fun U => PZ g U U.heap)) (vp_Sl (fun r => r = jI (mv ax p v))) 0 0 (fun _ => False) := by
  refine Met.ofW (cc := cX0_movement) (maxL := 3) (ret := (some .long)) (by decide) rfl ?_
  intro pp ee s mm args below meth cc9 s₁ B hml hv
  obtain ⟨rfl, hPX⟩ := hv
  have hZS : ZS nA g s s.heap := hPX
  have hx := B.exec
  have hb := B.bytes
  have hr := B.returns
  have hts := atoms_spec (ws := wsX0_movement) B.pre
  have hown : s.vm.findClass RX0 = some mm.cls := findClass_of_methodNamed B.named
  have hlocks := B.notSynchronized
  have m187 : Cond.fieldLink RX0 187 "TraverseBoard" "SIN" "[I" ∈ wsX0_movement := by decide +kernel
  have hS0 : va_S nA s.heap s.heap [] := va_S.rf
  have hl := lv_entry ([.int (iI p), .int (iI v), .int (iI ax)]) (n := 3) (Nat.le_of_ble_eq_true rfl)
  rw [lg_entry_eq]
  generalize (lg_sl ([.int (iI p), .int (iI v), .int (iI ax)]) ++ List.replicate (3 - (lg_sl ([.int (iI p), .int (iI v), .int (iI ax)])).length) Slot.unset).toArray = ls at hl ⊢
  have hl : lv_has ls 3 [(0, .int (iI p)), (1, .int (iI v)), (2, .int (iI ax))] := hl
  refine lv_iload_n hx hb dX0_movement_0 rfl (lv_at hl 1 rfl) ?_
  refine z_i2l hx hb (by omega) dX0_movement_1 ?_
  refine va_gets hx hb hZS.1 hS0 hown (hts _ m187) (fun _ h9z => h9z) dX0_movement_2 ?_
  refine lv_iload_n hx hb dX0_movement_5 rfl (lv_at hl 0 rfl) ?_
  refine lv_iload_n hx hb dX0_movement_6 rfl (lv_at hl 2 rfl) ?_
  refine z_iadd hx hb dX0_movement_7 ?_
  refine z_bipush hx hb dX0_movement_8 (by decide +kernel) ?_
  refine zS_i (As := [.int (iI (p + ax)), .int (iI 32)]) (rest := [.ref (gS g), .long (jI v)]) ⟨hx, hb, hml, hown, hts⟩ (PT) PT_blind PT_mv  (c_J9_floorMod_7cf53 l g (p + ax) (by omega)) (va_cwS 2 hts gX0_movement_J9_floorMod_7cf53 rfl rfl rfl (by decide +kernel) ⟨Nat.le_of_ble_eq_true rfl, Nat.le_of_ble_eq_true rfl⟩) rfl hl.1 rfl (Nat.le_of_ble_eq_true rfl) dX0_movement_10 ⟨Nat.zero_le _, Nat.zero_le _⟩ ?_
  refine z_sin hx hb hZS hS0 ⟨by omega, by omega⟩ dX0_movement_13 ?_
  have hv_1 := sn_rng ((p + ax) % 32)
  refine z_i2l hx hb (by omega) dX0_movement_14 ?_
  refine z_lmul hx hb dX0_movement_15 ?_
  exact zr_l hx hb hr hlocks dX0_movement_16 (by first | rfl | omega)
set_option maxHeartbeats 4000000 in
set_option maxRecDepth 100000 in
theorem c_X0_legs (l : Launch) (g : GG) (u : ST) (a : Int) (b : Int) (ax : Int) (hI : Inv u) (k0z : 0 ≤ a) (k1z : a ≤ b) (k2z : b ≤ zpg u) (hax : ax = 8 ∨ ax = 0) : Met l yX0_legs wsX0_legs (k2_rm 2 44) (va_Pc [.ref (gX g 0), .int (iI a), .int (iI b), .int (iI ax)] (fun U => PX g u U U.heap)) (vp_Sl (fun r => r = jI (lg u ax a b))) 0 0 (fun _ => False) := by
  refine Met.ofW (cc := cX0_legs) (maxL := 7) (ret := (some .long)) (by decide) rfl ?_
  intro pp ee s mm args below meth cc9 s₁ B hml hv
  obtain ⟨rfl, hPX⟩ := hv
  obtain ⟨hP, hK, hZS⟩ := id hPX
  have hx := B.exec
  have hb := B.bytes
  have hr := B.returns
  have hts := atoms_spec (ws := wsX0_legs) B.pre
  have hown : s.vm.findClass RX0 = some mm.cls := findClass_of_methodNamed B.named
  have hlocks := B.notSynchronized
  have hin : ∀ w ∈ wsX00, w ∈ wsX0_legs := fun w h => List.mem_cons_of_mem _ (List.mem_append_right _ h)
  have m115 : Cond.fieldLink RX0 115 "TraverseBoard" "drift" "I" ∈ wsX0_legs := by decide +kernel
  have m118 : Cond.fieldLink RX0 118 "TraverseBoard" "set" "I" ∈ wsX0_legs := by decide +kernel
  have m13 : Cond.fieldLink RX0 13 "TraverseBoard" "points" "[I" ∈ wsX0_legs := by decide +kernel
  have m16 : Cond.fieldLink RX0 16 "TraverseBoard" "speeds" "[I" ∈ wsX0_legs := by decide +kernel
  have m19 : Cond.fieldLink RX0 19 "TraverseBoard" "leeways" "[I" ∈ wsX0_legs := by decide +kernel
  have m22 : Cond.fieldLink RX0 22 "TraverseBoard" "lost" "[Z" ∈ wsX0_legs := by decide +kernel
  have hS0 : va_S nA s.heap s.heap [] := va_S.rf
  have hi_bl := iv_bl hI
  have hi_pg := iv_pg hI
  have hi_se := iv_se hI
  have hi_dr := iv_dr hI
  have hl := lv_entry ([.ref (gX g 0), .int (iI a), .int (iI b), .int (iI ax)]) (n := 7) (Nat.le_of_ble_eq_true rfl)
  rw [lg_entry_eq]
  generalize (lg_sl ([.ref (gX g 0), .int (iI a), .int (iI b), .int (iI ax)]) ++ List.replicate (7 - (lg_sl ([.ref (gX g 0), .int (iI a), .int (iI b), .int (iI ax)])).length) Slot.unset).toArray = ls at hl ⊢
  have hl : lv_has ls 7 [(0, .ref (gX g 0)), (1, .int (iI a)), (2, .int (iI b)), (3, .int (iI ax))] := hl
  refine lv_iload_n hx hb dX0_legs_0 rfl (lv_at hl 2 rfl) ?_
  refine lv_iload_n hx hb dX0_legs_1 rfl (lv_at hl 1 rfl) ?_
  refine z_isub hx hb dX0_legs_2 ?_
  refine z_i2l hx hb (by omega) dX0_legs_3 ?_
  refine lv_aload_n hx hb dX0_legs_4 rfl (lv_at hl 0 rfl) ?_
  refine gf_X0_118 (z := zse u) hx hb hts hin m118 hown hK hP rfl dX0_legs_5 ?_
  refine lv_aload_n hx hb dX0_legs_8 rfl (lv_at hl 0 rfl) ?_
  refine gf_X0_115 (z := zdr u) hx hb hts hin m115 hown hK hP rfl dX0_legs_9 ?_
  refine lv_iload_n hx hb dX0_legs_12 rfl (lv_at hl 3 rfl) ?_
  refine zS_l (As := [.int (iI (zse u)), .int (iI (zdr u)), .int (iI ax)]) (rest := [.long (jI (b - a))]) ⟨hx, hb, hml, hown, hts⟩ (PZ g) (PZ_blind g) (PZ_mv hZS)  (c_X0_movement l g (zse u) (zdr u) ax (by omega) (by omega) (by omega)) (va_cwS 3 hts gX0_legs_X0_movement rfl rfl rfl (by decide +kernel) ⟨Nat.le_of_ble_eq_true rfl, Nat.le_of_ble_eq_true rfl⟩) rfl hl.1 rfl (Nat.le_of_ble_eq_true rfl) dX0_legs_13 ⟨Nat.zero_le _, Nat.zero_le _⟩ ?_
  refine z_lmul hx hb dX0_legs_16 ?_
  refine lv_lstore (lv' := [(4, .long (jI ((b - a) * (mv ax (zse u) (zdr u))))), (0, .ref (gX g 0)), (1, .int (iI a)), (2, .int (iI b)), (3, .int (iI ax))]) hx hb dX0_legs_17 hl (by decide) rfl (fun ls hl => ?_)
  refine lv_iload_n hx hb dX0_legs_19 rfl (lv_at hl 2 rfl) ?_
  refine lv_istore (lv' := [(6, .int (iI a)), (4, .long (jI ((b - a) * (mv ax (zse u) (zdr u))))), (0, .ref (gX g 0)), (1, .int (iI a)), (2, .int (iI b)), (3, .int (iI ax))]) hx hb dX0_legs_20 hl (by decide) rfl (fun ls hl => ?_)
  refine z_loop2 (nL := 7) (fun x t => (a ≤ t ∧ t ≤ b) ∧ (x = (b - a) * mv ax (zse u) (zdr u) + sz (legc u ax) a t)) (fun x t => (b - t).toNat) (fun x t => [(0, .ref (gX g 0)), (1, .int (iI a)), (2, .int (iI b)), (3, .int (iI ax)), (4, .long (jI x)), (6, .int (iI t))]) (fun x t ls hinv hl ih_22 => ?_) ((b - a) * (mv ax (zse u) (zdr u))) a ls ⟨(by omega), (by rw [sz_0 (Int.le_refl _), Int.add_zero])⟩ (lv_sub hl [2, 3, 4, 5, 1, 0] rfl)
  have hinv : (a ≤ t ∧ t ≤ b) ∧ (x = (b - a) * mv ax (zse u) (zdr u) + sz (legc u ax) a t) := hinv
  obtain ⟨q1z, q3z⟩ := hinv
  have hl : lv_has ls 7 [(0, .ref (gX g 0)), (1, .int (iI a)), (2, .int (iI b)), (3, .int (iI ax)), (4, .long (jI x)), (6, .int (iI t))] := hl
  have hl9 := iv_lo hI t
  refine lv_iload hx hb dX0_legs_22 (lv_at hl 5 rfl) ?_
  refine lv_iload_n hx hb dX0_legs_24 rfl (lv_at hl 2 rfl) ?_
  refine z_icmp_ge (tgt := 75) hx hb dX0_legs_25 (by decide) (by omega) (by omega) (fun c_1 => ?_) (fun c_1 => ?_)
  · refine lv_lload hx hb dX0_legs_75 (lv_at hl 4 rfl) ?_
    exact zr_l hx hb hr hlocks dX0_legs_77 (by rw [q3z, show t = b by omega]; rfl)
  · refine lv_aload_n hx hb dX0_legs_28 rfl (lv_at hl 0 rfl) ?_
    refine gf_X0_22 hx hb hts hin m22 hown hK hP dX0_legs_29 ?_
    refine lv_iload hx hb dX0_legs_32 (lv_at hl 5 rfl) ?_
    refine al_X0_5 hx hb hK hP ⟨by omega, by omega⟩ dX0_legs_34 ?_
    have hv_2 := iv_lo hI t
    refine z_if_ne (tgt := 69) hx hb dX0_legs_35 (by decide) (by omega) (fun c_3 => ?_) (fun c_3 => ?_)
    · refine z_iinc (k := 5) (lv' := [(6, .int (iI (t + 1))), (0, .ref (gX g 0)), (1, .int (iI a)), (2, .int (iI b)), (3, .int (iI ax)), (4, .long (jI x))]) hx hb dX0_legs_69 hl rfl (by decide) rfl (fun ls hl => ?_)
      refine lv_goto (tgt := 22) hx hb dX0_legs_72 (by decide) ?_
      exact ih_22 x (t + 1) ls ⟨(by omega), (by rw [sz_s q1z.1, q3z, legc]; first | rw [if_pos (by omega), Int.add_assoc] | rw [if_neg (by omega), Int.add_zero])⟩ (show (b - (t + 1)).toNat < (b - t).toNat by omega) (lv_sub hl [1, 2, 3, 4, 5, 0] rfl)
    · refine lv_lload hx hb dX0_legs_38 (lv_at hl 4 rfl) ?_
      refine lv_aload_n hx hb dX0_legs_40 rfl (lv_at hl 0 rfl) ?_
      refine gf_X0_13 hx hb hts hin m13 hown hK hP dX0_legs_41 ?_
      refine lv_iload hx hb dX0_legs_44 (lv_at hl 5 rfl) ?_
      refine al_X0_2 hx hb hK hP ⟨by omega, by omega⟩ dX0_legs_46 ?_
      have hv_4 := iv_po hI t
      refine lv_aload_n hx hb dX0_legs_47 rfl (lv_at hl 0 rfl) ?_
      refine gf_X0_19 hx hb hts hin m19 hown hK hP dX0_legs_48 ?_
      refine lv_iload hx hb dX0_legs_51 (lv_at hl 5 rfl) ?_
      refine al_X0_4 hx hb hK hP ⟨by omega, by omega⟩ dX0_legs_53 ?_
      have hv_5 := iv_le hI t
      refine z_iadd hx hb dX0_legs_54 ?_
      refine lv_aload_n hx hb dX0_legs_55 rfl (lv_at hl 0 rfl) ?_
      refine gf_X0_16 hx hb hts hin m16 hown hK hP dX0_legs_56 ?_
      refine lv_iload hx hb dX0_legs_59 (lv_at hl 5 rfl) ?_
      refine al_X0_3 hx hb hK hP ⟨by omega, by omega⟩ dX0_legs_61 ?_
      have hv_6 := iv_sp hI t
      refine lv_iload_n hx hb dX0_legs_62 rfl (lv_at hl 3 rfl) ?_
      refine zS_l (As := [.int (iI ((zpo u t) + (zle u t))), .int (iI (zsp u t)), .int (iI ax)]) (rest := [.long (jI x)]) ⟨hx, hb, hml, hown, hts⟩ (PZ g) (PZ_blind g) (PZ_mv hZS)  (c_X0_movement l g ((zpo u t) + (zle u t)) (zsp u t) ax (by omega) (by omega) (by omega)) (va_cwS 3 hts gX0_legs_X0_movement rfl rfl rfl (by decide +kernel) ⟨Nat.le_of_ble_eq_true rfl, Nat.le_of_ble_eq_true rfl⟩) rfl hl.1 rfl (Nat.le_of_ble_eq_true rfl) dX0_legs_63 ⟨Nat.zero_le _, Nat.zero_le _⟩ ?_
      refine z_ladd hx hb dX0_legs_66 ?_
      refine lv_lstore (lv' := [(4, .long (jI (x + (mv ax ((zpo u t) + (zle u t)) (zsp u t))))), (0, .ref (gX g 0)), (1, .int (iI a)), (2, .int (iI b)), (3, .int (iI ax)), (6, .int (iI t))]) hx hb dX0_legs_67 hl (by decide) rfl (fun ls hl => ?_)
      refine z_iinc (k := 5) (lv' := [(6, .int (iI (t + 1))), (4, .long (jI (x + (mv ax ((zpo u t) + (zle u t)) (zsp u t))))), (0, .ref (gX g 0)), (1, .int (iI a)), (2, .int (iI b)), (3, .int (iI ax))]) hx hb dX0_legs_69 hl rfl (by decide) rfl (fun ls hl => ?_)
      refine lv_goto (tgt := 22) hx hb dX0_legs_72 (by decide) ?_
      exact ih_22 (x + (mv ax ((zpo u t) + (zle u t)) (zsp u t))) (t + 1) ls ⟨(by omega), (by rw [sz_s q1z.1, q3z, legc]; first | rw [if_pos (by omega), Int.add_assoc] | rw [if_neg (by omega), Int.add_zero])⟩ (show (b - (t + 1)).toNat < (b - t).toNat by omega) (lv_sub hl [2, 3, 4, 5, 1, 0] rfl)
