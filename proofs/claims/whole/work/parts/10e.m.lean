/-! the reference, by program (genm.py): X1_setFix X1_removeFix X1_isMoment X1_fixAt X1_fixBehind X1_leg X1_fixed X1_gone -/
set_option maxHeartbeats 4000000 in
set_option maxRecDepth 100000 in
theorem c_X1_setFix (l : Launch) (g : GG) (u : ST) (v : VT) (hg : gOk g) (k : Int) (n : Int) (e9z : Int) (hI : Inv u) (hb_k : B32 k) (hb_n : B32 n) (hb_e9 : B32 e9z) : Met l yX1_setFix wsX1_setFix (k2_rm 1 22) (va_Pc [.ref (gM g 0), .int (iI k), .int (iI n), .int (iI e9z)] (fun U => PM g u v U U.heap)) (va_Ql (fun r (_ : Unit) => r = jI (sfR u k n e9z)) (fun _ t => (fun H9 => va_P (gD g) vwCl (wM g (sfU u k n e9z) v) H9) t.heap) (aM g)) 0 0 (aM g) := by
  refine Met.ofW (cc := cX1_setFix) (maxL := 4) (ret := (some .long)) (by decide) rfl ?_
  intro pp ee s mm args below meth cc9 s₁ B hml hv
  obtain ⟨rfl, hPX⟩ := hv
  obtain ⟨hP, hK⟩ := id hPX
  have hx := B.exec
  have hb := B.bytes
  have hr := B.returns
  have hts := atoms_spec (ws := wsX1_setFix) B.pre
  have hown : s.vm.findClass RX1 = some mm.cls := findClass_of_methodNamed B.named
  have hlocks := B.notSynchronized
  have hin : ∀ w ∈ wsX10, w ∈ wsX1_setFix := fun w h => List.mem_cons_of_mem _ (List.mem_append_right _ h)
  have m129 : Cond.constantLong RX1 129 (-9000000000000000003) ∈ wsX1_setFix := by decide +kernel
  have m131 : Cond.constant RX1 131 (-200000000) ∈ wsX1_setFix := by decide +kernel
  have m132 : Cond.constant RX1 132 (200000000) ∈ wsX1_setFix := by decide +kernel
  have m26 : Cond.fieldLink RX1 26 "TraverseBoardModel" "hasFix" "[Z" ∈ wsX1_setFix := by decide +kernel
  have m29 : Cond.fieldLink RX1 29 "TraverseBoardModel" "fixNorth" "[J" ∈ wsX1_setFix := by decide +kernel
  have m33 : Cond.fieldLink RX1 33 "TraverseBoardModel" "fixEast" "[J" ∈ wsX1_setFix := by decide +kernel
  have m51 : Cond.constantLong RX1 51 (-9000000000000000001) ∈ wsX1_setFix := by decide +kernel
  have m91 : Cond.fieldLink RX1 91 "TraverseBoardModel" "pegs" "I" ∈ wsX1_setFix := by decide +kernel
  have hS : va_S (aM g) s.heap s.heap [] := va_S.rf
  have hi_bl := iv_bl hI
  have hi_pg := iv_pg hI
  have hi_se := iv_se hI
  have hi_dr := iv_dr hI
  have hl := lv_entry ([.ref (gM g 0), .int (iI k), .int (iI n), .int (iI e9z)]) (n := 4) (Nat.le_of_ble_eq_true rfl)
  rw [lg_entry_eq]
  generalize (lg_sl ([.ref (gM g 0), .int (iI k), .int (iI n), .int (iI e9z)]) ++ List.replicate (4 - (lg_sl ([.ref (gM g 0), .int (iI k), .int (iI n), .int (iI e9z)])).length) Slot.unset).toArray = ls at hl ⊢
  have hl : lv_has ls 4 [(0, .ref (gM g 0)), (1, .int (iI k)), (2, .int (iI n)), (3, .int (iI e9z))] := hl
  refine lv_iload_n hx hb dX1_setFix_0 rfl (lv_at hl 1 rfl) ?_
  refine z_iconst hx hb dX1_setFix_1 ?_
  refine lv_aload_n hx hb dX1_setFix_2 rfl (lv_at hl 0 rfl) ?_
  refine gf_X1_91 (z := zpg u) hx hb hts hin m91 hown hK hP rfl dX1_setFix_3 ?_
  refine zS_z (As := [.int (iI k), .int (iI 1), .int (iI (zpg u))]) (rest := []) ⟨hx, hb, hml, hown, hts⟩ (PT) PT_blind PT_mv  (c_X1_within l g k 1 (zpg u) (by omega) (by omega) (by omega)) (va_cwS 3 hts gX1_setFix_X1_within rfl rfl rfl (by decide +kernel) ⟨Nat.le_of_ble_eq_true rfl, Nat.le_of_ble_eq_true rfl⟩) rfl hl.1 rfl (Nat.le_of_ble_eq_true rfl) dX1_setFix_6 ⟨Nat.zero_le _, Nat.zero_le _⟩ (fun c_1 => ?_) (fun c_1 => ?_)
  · refine z_if_ne (tgt := 16) hx hb dX1_setFix_9 (by decide) ⟨by decide, by decide⟩ (fun c_2 => ?_) (fun c_2 => (absurd c_2 (by decide)))
    refine lv_iload_n hx hb dX1_setFix_16 rfl (lv_at hl 2 rfl) ?_
    refine lv_ldc (v := iI (-200000000)) hx hb hown (hts _ m131) dX1_setFix_17 ?_
    refine lv_ldc (v := iI (200000000)) hx hb hown (hts _ m132) dX1_setFix_19 ?_
    refine zS_z (As := [.int (iI n), .int (iI ((-200000000))), .int (iI 200000000)]) (rest := []) ⟨hx, hb, hml, hown, hts⟩ (PT) PT_blind PT_mv  (c_X1_within l g n ((-200000000)) 200000000 (by omega) (by omega) (by omega)) (va_cwS 3 hts gX1_setFix_X1_within rfl rfl rfl (by decide +kernel) ⟨Nat.le_of_ble_eq_true rfl, Nat.le_of_ble_eq_true rfl⟩) rfl hl.1 rfl (Nat.le_of_ble_eq_true rfl) dX1_setFix_21 ⟨Nat.zero_le _, Nat.zero_le _⟩ (fun c_3 => ?_) (fun c_3 => ?_)
    · refine z_if_eq (tgt := 38) hx hb dX1_setFix_24 (by decide) ⟨by decide, by decide⟩ (fun c_4 => (absurd c_4 (by decide))) (fun c_4 => ?_)
      refine lv_iload_n hx hb dX1_setFix_27 rfl (lv_at hl 3 rfl) ?_
      refine lv_ldc (v := iI (-200000000)) hx hb hown (hts _ m131) dX1_setFix_28 ?_
      refine lv_ldc (v := iI (200000000)) hx hb hown (hts _ m132) dX1_setFix_30 ?_
      refine zS_z (As := [.int (iI e9z), .int (iI ((-200000000))), .int (iI 200000000)]) (rest := []) ⟨hx, hb, hml, hown, hts⟩ (PT) PT_blind PT_mv  (c_X1_within l g e9z ((-200000000)) 200000000 (by omega) (by omega) (by omega)) (va_cwS 3 hts gX1_setFix_X1_within rfl rfl rfl (by decide +kernel) ⟨Nat.le_of_ble_eq_true rfl, Nat.le_of_ble_eq_true rfl⟩) rfl hl.1 rfl (Nat.le_of_ble_eq_true rfl) dX1_setFix_32 ⟨Nat.zero_le _, Nat.zero_le _⟩ (fun c_5 => ?_) (fun c_5 => ?_)
      · refine z_if_ne (tgt := 42) hx hb dX1_setFix_35 (by decide) ⟨by decide, by decide⟩ (fun c_6 => ?_) (fun c_6 => (absurd c_6 (by decide)))
        refine lv_aload_n hx hb dX1_setFix_42 rfl (lv_at hl 0 rfl) ?_
        refine gf_X1_26 hx hb hts hin m26 hown hK hP dX1_setFix_43 ?_
        refine lv_iload_n hx hb dX1_setFix_46 rfl (lv_at hl 1 rfl) ?_
        refine z_iconst hx hb dX1_setFix_47 ?_
        refine as_X1_6 hx hb hK hP (wM_D hg _ _) hS ⟨by omega, by omega⟩ (by decide +kernel) dX1_setFix_48 (fun H locs hP hS => ?_)
        refine lv_aload_n hx hb dX1_setFix_49 rfl (lv_at hl 0 rfl) ?_
        refine gf_X1_29 hx hb hts hin m29 hown hK hP dX1_setFix_50 ?_
        refine lv_iload_n hx hb dX1_setFix_53 rfl (lv_at hl 1 rfl) ?_
        refine lv_iload_n hx hb dX1_setFix_54 rfl (lv_at hl 2 rfl) ?_
        refine z_i2l hx hb (by omega) dX1_setFix_55 ?_
        refine as_X1_7 hx hb hK hP (wM_D hg _ _) hS ⟨by omega, by omega⟩ dX1_setFix_56 (fun H locs hP hS => ?_)
        refine lv_aload_n hx hb dX1_setFix_57 rfl (lv_at hl 0 rfl) ?_
        refine gf_X1_33 hx hb hts hin m33 hown hK hP dX1_setFix_58 ?_
        refine lv_iload_n hx hb dX1_setFix_61 rfl (lv_at hl 1 rfl) ?_
        refine lv_iload_n hx hb dX1_setFix_62 rfl (lv_at hl 3 rfl) ?_
        refine z_i2l hx hb (by omega) dX1_setFix_63 ?_
        refine as_X1_8 hx hb hK hP (wM_D hg _ _) hS ⟨by omega, by omega⟩ dX1_setFix_64 (fun H locs hP hS => ?_)
        refine lv_aload_n hx hb dX1_setFix_65 rfl (lv_at hl 0 rfl) ?_
        refine zV_i (As := []) (rest := []) ⟨hx, hb, hml, hown, hts⟩ (PM g (ufe (ufn (ufx u (zup (zfx u) k 1)) (zup (zfn (ufx u (zup (zfx u) k 1))) k n)) (zup (zfe (ufn (ufx u (zup (zfx u) k 1)) (zup (zfn (ufx u (zup (zfx u) k 1))) k n))) k e9z)) v) (PM_blind g (ufe (ufn (ufx u (zup (zfx u) k 1)) (zup (zfn (ufx u (zup (zfx u) k 1))) k n)) (zup (zfe (ufn (ufx u (zup (zfx u) k 1)) (zup (zfn (ufx u (zup (zfx u) k 1))) k n))) k e9z)) v) (PM_mv hP hK) (rcM hK hP) (c_X1_fixMany l g ((ufe (ufn (ufx u (zup (zfx u) k 1)) (zup (zfn (ufx u (zup (zfx u) k 1))) k n)) (zup (zfe (ufn (ufx u (zup (zfx u) k 1)) (zup (zfn (ufx u (zup (zfx u) k 1))) k n))) k e9z))) v (inv_sf hI k n e9z (by omega) (by omega))) (cwV 0 hts gX1_setFix_X1_fixMany rfl rfl rfl (by decide +kernel) ⟨Nat.le_of_ble_eq_true rfl, Nat.le_of_ble_eq_true rfl⟩) rfl hl.1 rfl (Nat.le_of_ble_eq_true rfl) dX1_setFix_66 ⟨Nat.zero_le _, Nat.zero_le _⟩ ?_
        refine z_i2l hx hb (sf_b hI k) dX1_setFix_69 ?_
        exact zw_l (Post := (fun H9 => va_P (gD g) vwCl (wM g (sfU u k n e9z) v) H9)) hx hb hr hlocks dX1_setFix_70 hS (by unfold sfR eOR eNM; (repeat' split) <;> first | rfl | omega) (by unfold sfU; split <;> first | exact hP | (exfalso; omega))
      · refine z_if_ne (tgt := 42) hx hb dX1_setFix_35 (by decide) ⟨by decide, by decide⟩ (fun c_7 => (absurd c_7 (by decide))) (fun c_7 => ?_)
        refine lv_ldc2 (v := jI (-9000000000000000001)) hx hb hown (hts _ m51) dX1_setFix_38 ?_
        exact zw_l (Post := (fun H9 => va_P (gD g) vwCl (wM g (sfU u k n e9z) v) H9)) hx hb hr hlocks dX1_setFix_41 hS (by unfold sfR eOR eNM; (repeat' split) <;> first | rfl | omega) (by unfold sfU; split <;> first | exact hP | (exfalso; omega))
    · refine z_if_eq (tgt := 38) hx hb dX1_setFix_24 (by decide) ⟨by decide, by decide⟩ (fun c_8 => ?_) (fun c_8 => (absurd c_8 (by decide)))
      refine lv_ldc2 (v := jI (-9000000000000000001)) hx hb hown (hts _ m51) dX1_setFix_38 ?_
      exact zw_l (Post := (fun H9 => va_P (gD g) vwCl (wM g (sfU u k n e9z) v) H9)) hx hb hr hlocks dX1_setFix_41 hS (by unfold sfR eOR eNM; (repeat' split) <;> first | rfl | omega) (by unfold sfU; split <;> first | exact hP | (exfalso; omega))
  · refine z_if_ne (tgt := 16) hx hb dX1_setFix_9 (by decide) ⟨by decide, by decide⟩ (fun c_9 => (absurd c_9 (by decide))) (fun c_9 => ?_)
    refine lv_ldc2 (v := jI (-9000000000000000003)) hx hb hown (hts _ m129) dX1_setFix_12 ?_
    exact zw_l (Post := (fun H9 => va_P (gD g) vwCl (wM g (sfU u k n e9z) v) H9)) hx hb hr hlocks dX1_setFix_15 hS (by unfold sfR eOR eNM; (repeat' split) <;> first | rfl | omega) (by unfold sfU; split <;> first | exact hP | (exfalso; omega))
set_option maxHeartbeats 4000000 in
set_option maxRecDepth 100000 in
theorem c_X1_removeFix (l : Launch) (g : GG) (u : ST) (v : VT) (hg : gOk g) (k : Int) (hI : Inv u) (hb_k : B32 k) : Met l yX1_removeFix wsX1_removeFix (k2_rm 1 22) (va_Pc [.ref (gM g 0), .int (iI k)] (fun U => PM g u v U U.heap)) (va_Ql (fun r (_ : Unit) => r = jI (rfR u k)) (fun _ t => (fun H9 => va_P (gD g) vwCl (wM g (rfU u k) v) H9) t.heap) (aM g)) 0 0 (aM g) := by
  refine Met.ofW (cc := cX1_removeFix) (maxL := 2) (ret := (some .long)) (by decide) rfl ?_
  intro pp ee s mm args below meth cc9 s₁ B hml hv
  obtain ⟨rfl, hPX⟩ := hv
  obtain ⟨hP, hK⟩ := id hPX
  have hx := B.exec
  have hb := B.bytes
  have hr := B.returns
  have hts := atoms_spec (ws := wsX1_removeFix) B.pre
  have hown : s.vm.findClass RX1 = some mm.cls := findClass_of_methodNamed B.named
  have hlocks := B.notSynchronized
  have hin : ∀ w ∈ wsX10, w ∈ wsX1_removeFix := fun w h => List.mem_cons_of_mem _ (List.mem_append_right _ h)
  have m108 : Cond.constantLong RX1 108 (-9000000000000000007) ∈ wsX1_removeFix := by decide +kernel
  have m129 : Cond.constantLong RX1 129 (-9000000000000000003) ∈ wsX1_removeFix := by decide +kernel
  have m26 : Cond.fieldLink RX1 26 "TraverseBoardModel" "hasFix" "[Z" ∈ wsX1_removeFix := by decide +kernel
  have m91 : Cond.fieldLink RX1 91 "TraverseBoardModel" "pegs" "I" ∈ wsX1_removeFix := by decide +kernel
  have hS : va_S (aM g) s.heap s.heap [] := va_S.rf
  have hi_bl := iv_bl hI
  have hi_pg := iv_pg hI
  have hi_se := iv_se hI
  have hi_dr := iv_dr hI
  have hl := lv_entry ([.ref (gM g 0), .int (iI k)]) (n := 2) (Nat.le_of_ble_eq_true rfl)
  rw [lg_entry_eq]
  generalize (lg_sl ([.ref (gM g 0), .int (iI k)]) ++ List.replicate (2 - (lg_sl ([.ref (gM g 0), .int (iI k)])).length) Slot.unset).toArray = ls at hl ⊢
  have hl : lv_has ls 2 [(0, .ref (gM g 0)), (1, .int (iI k))] := hl
  refine lv_iload_n hx hb dX1_removeFix_0 rfl (lv_at hl 1 rfl) ?_
  refine z_iconst hx hb dX1_removeFix_1 ?_
  refine lv_aload_n hx hb dX1_removeFix_2 rfl (lv_at hl 0 rfl) ?_
  refine gf_X1_91 (z := zpg u) hx hb hts hin m91 hown hK hP rfl dX1_removeFix_3 ?_
  refine zS_z (As := [.int (iI k), .int (iI 1), .int (iI (zpg u))]) (rest := []) ⟨hx, hb, hml, hown, hts⟩ (PT) PT_blind PT_mv  (c_X1_within l g k 1 (zpg u) (by omega) (by omega) (by omega)) (va_cwS 3 hts gX1_removeFix_X1_within rfl rfl rfl (by decide +kernel) ⟨Nat.le_of_ble_eq_true rfl, Nat.le_of_ble_eq_true rfl⟩) rfl hl.1 rfl (Nat.le_of_ble_eq_true rfl) dX1_removeFix_6 ⟨Nat.zero_le _, Nat.zero_le _⟩ (fun c_1 => ?_) (fun c_1 => ?_)
  · refine z_if_ne (tgt := 16) hx hb dX1_removeFix_9 (by decide) ⟨by decide, by decide⟩ (fun c_2 => ?_) (fun c_2 => (absurd c_2 (by decide)))
    refine lv_aload_n hx hb dX1_removeFix_16 rfl (lv_at hl 0 rfl) ?_
    refine gf_X1_26 hx hb hts hin m26 hown hK hP dX1_removeFix_17 ?_
    refine lv_iload_n hx hb dX1_removeFix_20 rfl (lv_at hl 1 rfl) ?_
    refine al_X1_6 hx hb hK hP ⟨by omega, by omega⟩ dX1_removeFix_21 ?_
    have hv_3 := iv_fx hI k
    refine z_if_ne (tgt := 29) hx hb dX1_removeFix_22 (by decide) (by omega) (fun c_4 => ?_) (fun c_4 => ?_)
    · refine lv_aload_n hx hb dX1_removeFix_29 rfl (lv_at hl 0 rfl) ?_
      refine gf_X1_26 hx hb hts hin m26 hown hK hP dX1_removeFix_30 ?_
      refine lv_iload_n hx hb dX1_removeFix_33 rfl (lv_at hl 1 rfl) ?_
      refine z_iconst hx hb dX1_removeFix_34 ?_
      refine as_X1_6 hx hb hK hP (wM_D hg _ _) hS ⟨by omega, by omega⟩ (by decide +kernel) dX1_removeFix_35 (fun H locs hP hS => ?_)
      refine lv_aload_n hx hb dX1_removeFix_36 rfl (lv_at hl 0 rfl) ?_
      refine zV_i (As := []) (rest := []) ⟨hx, hb, hml, hown, hts⟩ (PM g (ufx u (zup (zfx u) k 0)) v) (PM_blind g (ufx u (zup (zfx u) k 0)) v) (PM_mv hP hK) (rcM hK hP) (c_X1_fixMany l g ((ufx u (zup (zfx u) k 0))) v (inv_rf hI k (by omega))) (cwV 0 hts gX1_removeFix_X1_fixMany rfl rfl rfl (by decide +kernel) ⟨Nat.le_of_ble_eq_true rfl, Nat.le_of_ble_eq_true rfl⟩) rfl hl.1 rfl (Nat.le_of_ble_eq_true rfl) dX1_removeFix_37 ⟨Nat.zero_le _, Nat.zero_le _⟩ ?_
      refine z_i2l hx hb (rf_b hI k) dX1_removeFix_40 ?_
      exact zw_l (Post := (fun H9 => va_P (gD g) vwCl (wM g (rfU u k) v) H9)) hx hb hr hlocks dX1_removeFix_41 hS (by unfold rfR eNO eNM; (repeat' split) <;> first | rfl | omega) (by unfold rfU; split <;> first | exact hP | (exfalso; omega))
    · refine lv_ldc2 (v := jI (-9000000000000000007)) hx hb hown (hts _ m108) dX1_removeFix_25 ?_
      exact zw_l (Post := (fun H9 => va_P (gD g) vwCl (wM g (rfU u k) v) H9)) hx hb hr hlocks dX1_removeFix_28 hS (by unfold rfR eNO eNM; (repeat' split) <;> first | rfl | omega) (by unfold rfU; split <;> first | exact hP | (exfalso; omega))
  · refine z_if_ne (tgt := 16) hx hb dX1_removeFix_9 (by decide) ⟨by decide, by decide⟩ (fun c_5 => (absurd c_5 (by decide))) (fun c_5 => ?_)
    refine lv_ldc2 (v := jI (-9000000000000000003)) hx hb hown (hts _ m129) dX1_removeFix_12 ?_
    exact zw_l (Post := (fun H9 => va_P (gD g) vwCl (wM g (rfU u k) v) H9)) hx hb hr hlocks dX1_removeFix_15 hS (by unfold rfR eNO eNM; (repeat' split) <;> first | rfl | omega) (by unfold rfU; split <;> first | exact hP | (exfalso; omega))
set_option maxHeartbeats 4000000 in
set_option maxRecDepth 100000 in
theorem c_X1_isMoment (l : Launch) (g : GG) (u : ST) (v : VT) (x : Int) (hI : Inv u) (hb_x : B32 x) : Met l yX1_isMoment wsX1_isMoment (k2_rm 1 22) (va_Pc [.ref (gM g 0), .int (iI x)] (fun U => PM g u v U U.heap)) (vp_Si (fun r => (r = iI 1 ∧ (0 ≤ x ∧ x ≤ zpg u)) ∨ (r = iI 0 ∧ ¬ (0 ≤ x ∧ x ≤ zpg u)))) 0 0 (fun _ => False) := by
  refine Met.ofW (cc := cX1_isMoment) (maxL := 2) (ret := (some .boolean)) (by decide) rfl ?_
  intro pp ee s mm args below meth cc9 s₁ B hml hv
  obtain ⟨rfl, hPX⟩ := hv
  obtain ⟨hP, hK⟩ := id hPX
  have hx := B.exec
  have hb := B.bytes
  have hr := B.returns
  have hts := atoms_spec (ws := wsX1_isMoment) B.pre
  have hown : s.vm.findClass RX1 = some mm.cls := findClass_of_methodNamed B.named
  have hlocks := B.notSynchronized
  have hin : ∀ w ∈ wsX10, w ∈ wsX1_isMoment := fun w h => List.mem_cons_of_mem _ (List.mem_append_right _ h)
  have m91 : Cond.fieldLink RX1 91 "TraverseBoardModel" "pegs" "I" ∈ wsX1_isMoment := by decide +kernel
  have hi_bl := iv_bl hI
  have hi_pg := iv_pg hI
  have hi_se := iv_se hI
  have hi_dr := iv_dr hI
  have hl := lv_entry ([.ref (gM g 0), .int (iI x)]) (n := 2) (Nat.le_of_ble_eq_true rfl)
  rw [lg_entry_eq]
  generalize (lg_sl ([.ref (gM g 0), .int (iI x)]) ++ List.replicate (2 - (lg_sl ([.ref (gM g 0), .int (iI x)])).length) Slot.unset).toArray = ls at hl ⊢
  have hl : lv_has ls 2 [(0, .ref (gM g 0)), (1, .int (iI x))] := hl
  refine lv_iload_n hx hb dX1_isMoment_0 rfl (lv_at hl 1 rfl) ?_
  refine z_iconst hx hb dX1_isMoment_1 ?_
  refine lv_aload_n hx hb dX1_isMoment_2 rfl (lv_at hl 0 rfl) ?_
  refine gf_X1_91 (z := zpg u) hx hb hts hin m91 hown hK hP rfl dX1_isMoment_3 ?_
  refine zS_z (As := [.int (iI x), .int (iI 0), .int (iI (zpg u))]) (rest := []) ⟨hx, hb, hml, hown, hts⟩ (PT) PT_blind PT_mv  (c_X1_within l g x 0 (zpg u) (by omega) (by omega) (by omega)) (va_cwS 3 hts gX1_isMoment_X1_within rfl rfl rfl (by decide +kernel) ⟨Nat.le_of_ble_eq_true rfl, Nat.le_of_ble_eq_true rfl⟩) rfl hl.1 rfl (Nat.le_of_ble_eq_true rfl) dX1_isMoment_6 ⟨Nat.zero_le _, Nat.zero_le _⟩ (fun c_1 => ?_) (fun c_1 => ?_)
  · exact zr_1 hx hb hr hlocks dX1_isMoment_9 (by omega)
  · exact zr_0 hx hb hr hlocks dX1_isMoment_9 (by omega)
set_option maxHeartbeats 4000000 in
set_option maxRecDepth 100000 in
theorem c_X1_fixAt (l : Launch) (g : GG) (u : ST) (v : VT) (k : Int) (hI : Inv u) (k0z : 0 ≤ k) (k1z : k ≤ zpg u) : Met l yX1_fixAt wsX1_fixAt (k2_rm 0 0) (va_Pc [.ref (gM g 0), .int (iI k)] (fun U => PM g u v U U.heap)) (vp_Si (fun r => r = iI (la u k))) 0 0 (fun _ => False) := by
  refine Met.ofW (cc := cX1_fixAt) (maxL := 3) (ret := (some .int)) (by decide) rfl ?_
  intro pp ee s mm args below meth cc9 s₁ B hml hv
  obtain ⟨rfl, hPX⟩ := hv
  obtain ⟨hP, hK⟩ := id hPX
  have hx := B.exec
  have hb := B.bytes
  have hr := B.returns
  have hts := atoms_spec (ws := wsX1_fixAt) B.pre
  have hown : s.vm.findClass RX1 = some mm.cls := findClass_of_methodNamed B.named
  have hlocks := B.notSynchronized
  have hin : ∀ w ∈ wsX10, w ∈ wsX1_fixAt := fun w h => List.mem_cons_of_mem _ (List.mem_append_right _ h)
  have m26 : Cond.fieldLink RX1 26 "TraverseBoardModel" "hasFix" "[Z" ∈ wsX1_fixAt := by decide +kernel
  have hi_bl := iv_bl hI
  have hi_pg := iv_pg hI
  have hi_se := iv_se hI
  have hi_dr := iv_dr hI
  have hl := lv_entry ([.ref (gM g 0), .int (iI k)]) (n := 3) (Nat.le_of_ble_eq_true rfl)
  rw [lg_entry_eq]
  generalize (lg_sl ([.ref (gM g 0), .int (iI k)]) ++ List.replicate (3 - (lg_sl ([.ref (gM g 0), .int (iI k)])).length) Slot.unset).toArray = ls at hl ⊢
  have hl : lv_has ls 3 [(0, .ref (gM g 0)), (1, .int (iI k))] := hl
  refine lv_iload_n hx hb dX1_fixAt_0 rfl (lv_at hl 1 rfl) ?_
  refine lv_istore_n (lv' := [(2, .int (iI k)), (0, .ref (gM g 0)), (1, .int (iI k))]) hx hb dX1_fixAt_1 rfl hl (by decide) rfl (fun ls hl => ?_)
  refine z_loop1 (nL := 3) (fun t => (0 ≤ t ∧ t ≤ k) ∧ (la u k = lf (zfx u) t)) (fun t => t.toNat) (fun t => [(0, .ref (gM g 0)), (1, .int (iI k)), (2, .int (iI t))]) (fun t ls hinv hl ih_2 => ?_) k ls ⟨(by omega), (by rfl)⟩ (lv_sub hl [1, 2, 0] rfl)
  have hinv : (0 ≤ t ∧ t ≤ k) ∧ (la u k = lf (zfx u) t) := hinv
  obtain ⟨q1z, q3z⟩ := hinv
  have hl : lv_has ls 3 [(0, .ref (gM g 0)), (1, .int (iI k)), (2, .int (iI t))] := hl
  have hl9 := iv_fx hI t
  have hf0 : t = 0 → zfx u t = 1 := fun h => by rw [h]; exact iv_f0 hI
  refine lv_aload_n hx hb dX1_fixAt_2 rfl (lv_at hl 0 rfl) ?_
  refine gf_X1_26 hx hb hts hin m26 hown hK hP dX1_fixAt_3 ?_
  refine lv_iload_n hx hb dX1_fixAt_6 rfl (lv_at hl 2 rfl) ?_
  refine al_X1_6 hx hb hK hP ⟨by omega, by omega⟩ dX1_fixAt_7 ?_
  have hv_1 := iv_fx hI t
  refine z_if_ne (tgt := 17) hx hb dX1_fixAt_8 (by decide) (by omega) (fun c_2 => ?_) (fun c_2 => ?_)
  · refine lv_iload_n hx hb dX1_fixAt_17 rfl (lv_at hl 2 rfl) ?_
    exact zr_i hx hb hr hlocks dX1_fixAt_18 (by rw [q3z, lf_stop (by omega) (by omega)])
  · refine z_iinc (k := 2) (lv' := [(2, .int (iI (t + (-1)))), (0, .ref (gM g 0)), (1, .int (iI k))]) hx hb dX1_fixAt_11 hl rfl (by decide) rfl (fun ls hl => ?_)
    refine lv_goto (tgt := 2) hx hb dX1_fixAt_14 (by decide) ?_
    exact ih_2 (t + (-1)) ls ⟨(by omega), (by rw [q3z]; exact lf_go (by omega) (by omega))⟩ (show (t + (-1)).toNat < t.toNat by omega) (lv_sub hl [1, 2, 0] rfl)
set_option maxHeartbeats 4000000 in
set_option maxRecDepth 100000 in
theorem c_X1_fixBehind (l : Launch) (g : GG) (u : ST) (v : VT) (k : Int) (hI : Inv u) (k0z : 0 ≤ k) (k1z : k ≤ zpg u) : Met l yX1_fixBehind wsX1_fixBehind (k2_rm 0 0) (va_Pc [.ref (gM g 0), .int (iI k)] (fun U => PM g u v U U.heap)) (vp_Si (fun r => r = iI (nf u k))) 0 0 (fun _ => False) := by
  refine Met.ofW (cc := cX1_fixBehind) (maxL := 4) (ret := (some .int)) (by decide) rfl ?_
  intro pp ee s mm args below meth cc9 s₁ B hml hv
  obtain ⟨rfl, hPX⟩ := hv
  obtain ⟨hP, hK⟩ := id hPX
  have hx := B.exec
  have hb := B.bytes
  have hr := B.returns
  have hts := atoms_spec (ws := wsX1_fixBehind) B.pre
  have hown : s.vm.findClass RX1 = some mm.cls := findClass_of_methodNamed B.named
  have hlocks := B.notSynchronized
  have hin : ∀ w ∈ wsX10, w ∈ wsX1_fixBehind := fun w h => List.mem_cons_of_mem _ (List.mem_append_right _ h)
  have m26 : Cond.fieldLink RX1 26 "TraverseBoardModel" "hasFix" "[Z" ∈ wsX1_fixBehind := by decide +kernel
  have m91 : Cond.fieldLink RX1 91 "TraverseBoardModel" "pegs" "I" ∈ wsX1_fixBehind := by decide +kernel
  have hi_bl := iv_bl hI
  have hi_pg := iv_pg hI
  have hi_se := iv_se hI
  have hi_dr := iv_dr hI
  have hl := lv_entry ([.ref (gM g 0), .int (iI k)]) (n := 4) (Nat.le_of_ble_eq_true rfl)
  rw [lg_entry_eq]
  generalize (lg_sl ([.ref (gM g 0), .int (iI k)]) ++ List.replicate (4 - (lg_sl ([.ref (gM g 0), .int (iI k)])).length) Slot.unset).toArray = ls at hl ⊢
  have hl : lv_has ls 4 [(0, .ref (gM g 0)), (1, .int (iI k))] := hl
  refine z_iconst hx hb dX1_fixBehind_0 ?_
  refine lv_istore_n (lv' := [(2, .int (iI ((-1)))), (0, .ref (gM g 0)), (1, .int (iI k))]) hx hb dX1_fixBehind_1 rfl hl (by decide) rfl (fun ls hl => ?_)
  refine lv_aload_n hx hb dX1_fixBehind_2 rfl (lv_at hl 1 rfl) ?_
  refine gf_X1_91 (z := zpg u) hx hb hts hin m91 hown hK hP rfl dX1_fixBehind_3 ?_
  refine lv_istore_n (lv' := [(3, .int (iI (zpg u))), (2, .int (iI ((-1)))), (0, .ref (gM g 0)), (1, .int (iI k))]) hx hb dX1_fixBehind_6 rfl hl (by decide) rfl (fun ls hl => ?_)
  refine z_loop2 (nL := 4) (fun x t => (k ≤ t ∧ t ≤ zpg u) ∧ (x = ff (zfx u) (t + 1) (zpg u + 1))) (fun x t => (t - k).toNat) (fun x t => [(0, .ref (gM g 0)), (1, .int (iI k)), (2, .int (iI x)), (3, .int (iI t))]) (fun x t ls hinv hl ih_7 => ?_) ((-1)) (zpg u) ls ⟨(by omega), (by exact (ff_0 (Int.le_refl _)).symm)⟩ (lv_sub hl [2, 3, 1, 0] rfl)
  have hinv : (k ≤ t ∧ t ≤ zpg u) ∧ (x = ff (zfx u) (t + 1) (zpg u + 1)) := hinv
  obtain ⟨q1z, q3z⟩ := hinv
  have hl : lv_has ls 4 [(0, .ref (gM g 0)), (1, .int (iI k)), (2, .int (iI x)), (3, .int (iI t))] := hl
  have hl9 := iv_fx hI t
  refine lv_iload_n hx hb dX1_fixBehind_7 rfl (lv_at hl 3 rfl) ?_
  refine lv_iload_n hx hb dX1_fixBehind_8 rfl (lv_at hl 1 rfl) ?_
  refine z_icmp_le (tgt := 33) hx hb dX1_fixBehind_9 (by decide) (by omega) (by omega) (fun c_1 => ?_) (fun c_1 => ?_)
  · refine lv_iload_n hx hb dX1_fixBehind_33 rfl (lv_at hl 2 rfl) ?_
    exact zr_i hx hb hr hlocks dX1_fixBehind_34 (by rw [q3z, show t = k by omega]; rfl)
  · refine lv_aload_n hx hb dX1_fixBehind_12 rfl (lv_at hl 0 rfl) ?_
    refine gf_X1_26 hx hb hts hin m26 hown hK hP dX1_fixBehind_13 ?_
    refine lv_iload_n hx hb dX1_fixBehind_16 rfl (lv_at hl 3 rfl) ?_
    refine al_X1_6 hx hb hK hP ⟨by omega, by omega⟩ dX1_fixBehind_17 ?_
    have hv_2 := iv_fx hI t
    refine z_if_eq (tgt := 25) hx hb dX1_fixBehind_18 (by decide) (by omega) (fun c_3 => ?_) (fun c_3 => ?_)
    · refine lv_iload_n hx hb dX1_fixBehind_25 rfl (lv_at hl 2 rfl) ?_
      refine lv_istore_n (lv' := [(2, .int (iI x)), (0, .ref (gM g 0)), (1, .int (iI k)), (3, .int (iI t))]) hx hb dX1_fixBehind_26 rfl hl (by decide) rfl (fun ls hl => ?_)
      refine z_iinc (k := 3) (lv' := [(3, .int (iI (t + (-1)))), (2, .int (iI x)), (0, .ref (gM g 0)), (1, .int (iI k))]) hx hb dX1_fixBehind_27 hl rfl (by decide) rfl (fun ls hl => ?_)
      refine lv_goto (tgt := 7) hx hb dX1_fixBehind_30 (by decide) ?_
      exact ih_7 x (t + (-1)) ls ⟨(by omega), (by rw [show t + -1 + 1 = t by omega]; first | (rw [ff_stop (by omega) (by omega)]; done) | (rw [ff_go (by omega) (by omega)]; exact q3z))⟩ (show ((t + (-1)) - k).toNat < (t - k).toNat by omega) (lv_sub hl [2, 3, 1, 0] rfl)
    · refine lv_iload_n hx hb dX1_fixBehind_21 rfl (lv_at hl 3 rfl) ?_
      refine lv_goto (tgt := 26) hx hb dX1_fixBehind_22 (by decide) ?_
      refine lv_istore_n (lv' := [(2, .int (iI t)), (0, .ref (gM g 0)), (1, .int (iI k)), (3, .int (iI t))]) hx hb dX1_fixBehind_26 rfl hl (by decide) rfl (fun ls hl => ?_)
      refine z_iinc (k := 3) (lv' := [(3, .int (iI (t + (-1)))), (2, .int (iI t)), (0, .ref (gM g 0)), (1, .int (iI k))]) hx hb dX1_fixBehind_27 hl rfl (by decide) rfl (fun ls hl => ?_)
      refine lv_goto (tgt := 7) hx hb dX1_fixBehind_30 (by decide) ?_
      exact ih_7 t (t + (-1)) ls ⟨(by omega), (by rw [show t + -1 + 1 = t by omega]; first | (rw [ff_stop (by omega) (by omega)]; done) | (rw [ff_go (by omega) (by omega)]; exact q3z))⟩ (show ((t + (-1)) - k).toNat < (t - k).toNat by omega) (lv_sub hl [2, 3, 1, 0] rfl)
set_option maxHeartbeats 4000000 in
set_option maxRecDepth 100000 in
theorem c_X1_leg (l : Launch) (g : GG) (u : ST) (v : VT) (k : Int) (sd : Int) (ax : Int) (hI : Inv u) (k0z : 0 ≤ k) (k1z : k < 48) (hs : (sd = 0 ∧ ax = 8) ∨ (sd = 1 ∧ ax = 0)) : Met l yX1_leg wsX1_leg (k2_rm 3 62) (va_Pc [.ref (gM g 0), .int (iI k), .int (iI sd)] (fun U => PM g u v U U.heap)) (vp_Sl (fun r => r = jI (legc u ax k + mv ax (zse u) (zdr u)))) 0 0 (fun _ => False) := by
  refine Met.ofW (cc := cX1_leg) (maxL := 6) (ret := (some .long)) (by decide) rfl ?_
  intro pp ee s mm args below meth cc9 s₁ B hml hv
  obtain ⟨rfl, hPX⟩ := hv
  obtain ⟨hP, hK⟩ := id hPX
  have hx := B.exec
  have hb := B.bytes
  have hr := B.returns
  have hts := atoms_spec (ws := wsX1_leg) B.pre
  have hown : s.vm.findClass RX1 = some mm.cls := findClass_of_methodNamed B.named
  have hlocks := B.notSynchronized
  have hin : ∀ w ∈ wsX10, w ∈ wsX1_leg := fun w h => List.mem_cons_of_mem _ (List.mem_append_right _ h)
  have m116 : Cond.fieldLink RX1 116 "TraverseBoardModel" "drift" "I" ∈ wsX1_leg := by decide +kernel
  have m119 : Cond.fieldLink RX1 119 "TraverseBoardModel" "set" "I" ∈ wsX1_leg := by decide +kernel
  have m13 : Cond.fieldLink RX1 13 "TraverseBoardModel" "point" "[I" ∈ wsX1_leg := by decide +kernel
  have m16 : Cond.fieldLink RX1 16 "TraverseBoardModel" "speed" "[I" ∈ wsX1_leg := by decide +kernel
  have m19 : Cond.fieldLink RX1 19 "TraverseBoardModel" "leeway" "[I" ∈ wsX1_leg := by decide +kernel
  have m22 : Cond.fieldLink RX1 22 "TraverseBoardModel" "isLost" "[Z" ∈ wsX1_leg := by decide +kernel
  have hi_bl := iv_bl hI
  have hi_pg := iv_pg hI
  have hi_se := iv_se hI
  have hi_dr := iv_dr hI
  have hpk := iv_po hI k
  have hlk := iv_le hI k
  have ht9 := tm32 (x := zpo u k + zle u k + 32) (by omega)
  have hm8 : mv 8 (zse u) (zdr u) = zdr u * sn ((zse u + 8) % 32) := rfl
  have hm0 : mv 0 (zse u) (zdr u) = zdr u * sn (zse u) := mv0 (by omega)
  have hl8 : mv 8 (zpo u k + zle u k) (zsp u k) = zsp u k * sn ((Int.tmod (zpo u k + zle u k + 32) 32 + 8) % 32) := mv8 (by rw [ht9]; omega)
  have hl0 : mv 0 (zpo u k + zle u k) (zsp u k) = zsp u k * sn (Int.tmod (zpo u k + zle u k + 32) 32) := mv0 (by rw [ht9]; omega)
  have hr1 := sn_rng ((Int.tmod (zpo u k + zle u k + 32) 32 + 8) % 32)
  have hr2 := sn_rng (Int.tmod (zpo u k + zle u k + 32) 32)
  have hr3 := sn_rng ((zse u + 8) % 32)
  have hr4 := sn_rng (zse u)
  have hl := lv_entry ([.ref (gM g 0), .int (iI k), .int (iI sd)]) (n := 6) (Nat.le_of_ble_eq_true rfl)
  rw [lg_entry_eq]
  generalize (lg_sl ([.ref (gM g 0), .int (iI k), .int (iI sd)]) ++ List.replicate (6 - (lg_sl ([.ref (gM g 0), .int (iI k), .int (iI sd)])).length) Slot.unset).toArray = ls at hl ⊢
  have hl : lv_has ls 6 [(0, .ref (gM g 0)), (1, .int (iI k)), (2, .int (iI sd))] := hl
  refine lv_aload_n hx hb dX1_leg_0 rfl (lv_at hl 0 rfl) ?_
  refine gf_X1_13 hx hb hts hin m13 hown hK hP dX1_leg_1 ?_
  refine lv_iload_n hx hb dX1_leg_4 rfl (lv_at hl 1 rfl) ?_
  refine al_X1_2 hx hb hK hP ⟨by omega, by omega⟩ dX1_leg_5 ?_
  have hv_1 := iv_po hI k
  refine lv_aload_n hx hb dX1_leg_6 rfl (lv_at hl 0 rfl) ?_
  refine gf_X1_19 hx hb hts hin m19 hown hK hP dX1_leg_7 ?_
  refine lv_iload_n hx hb dX1_leg_10 rfl (lv_at hl 1 rfl) ?_
  refine al_X1_4 hx hb hK hP ⟨by omega, by omega⟩ dX1_leg_11 ?_
  have hv_2 := iv_le hI k
  refine z_iadd hx hb dX1_leg_12 ?_
  refine z_bipush hx hb dX1_leg_13 (by decide +kernel) ?_
  refine z_iadd hx hb dX1_leg_15 ?_
  refine z_bipush hx hb dX1_leg_16 (by decide +kernel) ?_
  refine z_irem hx hb (by omega) (by omega) dX1_leg_18 ?_
  refine lv_istore_n (lv' := [(3, .int (iI (Int.tmod (((zpo u k) + (zle u k)) + 32) 32))), (0, .ref (gM g 0)), (1, .int (iI k)), (2, .int (iI sd))]) hx hb dX1_leg_19 rfl hl (by decide) rfl (fun ls hl => ?_)
  refine lv_aload_n hx hb dX1_leg_20 rfl (lv_at hl 1 rfl) ?_
  refine gf_X1_22 hx hb hts hin m22 hown hK hP dX1_leg_21 ?_
  refine lv_iload_n hx hb dX1_leg_24 rfl (lv_at hl 2 rfl) ?_
  refine al_X1_5 hx hb hK hP ⟨by omega, by omega⟩ dX1_leg_25 ?_
  have hv_3 := iv_lo hI k
  refine z_if_eq (tgt := 33) hx hb dX1_leg_26 (by decide) (by omega) (fun c_4 => ?_) (fun c_4 => ?_)
  · refine lv_aload_n hx hb dX1_leg_33 rfl (lv_at hl 1 rfl) ?_
    refine gf_X1_16 hx hb hts hin m16 hown hK hP dX1_leg_34 ?_
    refine lv_iload_n hx hb dX1_leg_37 rfl (lv_at hl 2 rfl) ?_
    refine al_X1_3 hx hb hK hP ⟨by omega, by omega⟩ dX1_leg_38 ?_
    have hv_5 := iv_sp hI k
    refine z_i2l hx hb (by omega) dX1_leg_39 ?_
    refine lv_iload_n hx hb dX1_leg_40 rfl (lv_at hl 3 rfl) ?_
    refine z_if_ne (tgt := 51) hx hb dX1_leg_41 (by decide) (by omega) (fun c_6 => ?_) (fun c_6 => ?_)
    · refine lv_iload_n hx hb dX1_leg_51 rfl (lv_at hl 0 rfl) ?_
      refine zS_i (As := [.int (iI (Int.tmod (((zpo u k) + (zle u k)) + 32) 32))]) (rest := [.long (jI (zsp u k))]) ⟨hx, hb, hml, hown, hts⟩ (PT) PT_blind PT_mv  (c_X1_sine l g (Int.tmod (((zpo u k) + (zle u k)) + 32) 32) (by omega) (by omega)) (va_cwS 1 hts gX1_leg_X1_sine rfl rfl rfl (by decide +kernel) ⟨Nat.le_of_ble_eq_true rfl, Nat.le_of_ble_eq_true rfl⟩) rfl hl.1 rfl (Nat.le_of_ble_eq_true rfl) dX1_leg_52 ⟨Nat.zero_le _, Nat.zero_le _⟩ ?_
      refine z_i2l hx hb (by omega) dX1_leg_55 ?_
      refine z_lmul hx hb dX1_leg_56 ?_
      refine lv_lstore (lv' := [(4, .long (jI ((zsp u k) * (sn (Int.tmod (((zpo u k) + (zle u k)) + 32) 32))))), (3, .int (iI (Int.tmod (((zpo u k) + (zle u k)) + 32) 32))), (0, .ref (gM g 0)), (1, .int (iI k)), (2, .int (iI sd))]) hx hb dX1_leg_57 hl (by decide) rfl (fun ls hl => ?_)
      refine lv_lload hx hb dX1_leg_59 (lv_at hl 0 rfl) ?_
      refine lv_aload_n hx hb dX1_leg_61 rfl (lv_at hl 2 rfl) ?_
      refine gf_X1_116 (z := zdr u) hx hb hts hin m116 hown hK hP rfl dX1_leg_62 ?_
      refine z_i2l hx hb (by omega) dX1_leg_65 ?_
      refine lv_iload_n hx hb dX1_leg_66 rfl (lv_at hl 4 rfl) ?_
      refine z_if_ne (tgt := 80) hx hb dX1_leg_67 (by decide) (by omega) (fun c_7 => ?_) (fun c_7 => ?_)
      · refine lv_aload_n hx hb dX1_leg_80 rfl (lv_at hl 2 rfl) ?_
        refine gf_X1_119 (z := zse u) hx hb hts hin m119 hown hK hP rfl dX1_leg_81 ?_
        refine zS_i (As := [.int (iI (zse u))]) (rest := [.long (jI (zdr u)), .long (jI ((zsp u k) * (sn (Int.tmod (((zpo u k) + (zle u k)) + 32) 32))))]) ⟨hx, hb, hml, hown, hts⟩ (PT) PT_blind PT_mv  (c_X1_sine l g (zse u) (by omega) (by omega)) (va_cwS 1 hts gX1_leg_X1_sine rfl rfl rfl (by decide +kernel) ⟨Nat.le_of_ble_eq_true rfl, Nat.le_of_ble_eq_true rfl⟩) rfl hl.1 rfl (Nat.le_of_ble_eq_true rfl) dX1_leg_84 ⟨Nat.zero_le _, Nat.zero_le _⟩ ?_
        refine z_i2l hx hb (by omega) dX1_leg_87 ?_
        refine z_lmul hx hb dX1_leg_88 ?_
        refine z_ladd hx hb dX1_leg_89 ?_
        exact zr_l hx hb hr hlocks dX1_leg_90 (by rcases hs with ⟨h1z, rfl⟩ | ⟨h1z, rfl⟩ <;> first | (exfalso; omega) | (rw [legc]; first | (rw [if_neg (by omega), hm8]; done) | (rw [if_neg (by omega), hm0]; done) | (rw [if_pos (by omega), hm8, hl8]; done) | (rw [if_pos (by omega), hm0, hl0]; done)))
      · refine lv_aload_n hx hb dX1_leg_70 rfl (lv_at hl 2 rfl) ?_
        refine gf_X1_119 (z := zse u) hx hb hts hin m119 hown hK hP rfl dX1_leg_71 ?_
        refine zS_i (As := [.int (iI (zse u))]) (rest := [.long (jI (zdr u)), .long (jI ((zsp u k) * (sn (Int.tmod (((zpo u k) + (zle u k)) + 32) 32))))]) ⟨hx, hb, hml, hown, hts⟩ (PT) PT_blind PT_mv  (c_X1_cosine l g (zse u) (by omega) (by omega)) (va_cwS 1 hts gX1_leg_X1_cosine rfl rfl rfl (by decide +kernel) ⟨Nat.le_of_ble_eq_true rfl, Nat.le_of_ble_eq_true rfl⟩) rfl hl.1 rfl (Nat.le_of_ble_eq_true rfl) dX1_leg_74 ⟨Nat.zero_le _, Nat.zero_le _⟩ ?_
        refine lv_goto (tgt := 87) hx hb dX1_leg_77 (by decide) ?_
        refine z_i2l hx hb (by omega) dX1_leg_87 ?_
        refine z_lmul hx hb dX1_leg_88 ?_
        refine z_ladd hx hb dX1_leg_89 ?_
        exact zr_l hx hb hr hlocks dX1_leg_90 (by rcases hs with ⟨h1z, rfl⟩ | ⟨h1z, rfl⟩ <;> first | (exfalso; omega) | (rw [legc]; first | (rw [if_neg (by omega), hm8]; done) | (rw [if_neg (by omega), hm0]; done) | (rw [if_pos (by omega), hm8, hl8]; done) | (rw [if_pos (by omega), hm0, hl0]; done)))
    · refine lv_iload_n hx hb dX1_leg_44 rfl (lv_at hl 0 rfl) ?_
      refine zS_i (As := [.int (iI (Int.tmod (((zpo u k) + (zle u k)) + 32) 32))]) (rest := [.long (jI (zsp u k))]) ⟨hx, hb, hml, hown, hts⟩ (PT) PT_blind PT_mv  (c_X1_cosine l g (Int.tmod (((zpo u k) + (zle u k)) + 32) 32) (by omega) (by omega)) (va_cwS 1 hts gX1_leg_X1_cosine rfl rfl rfl (by decide +kernel) ⟨Nat.le_of_ble_eq_true rfl, Nat.le_of_ble_eq_true rfl⟩) rfl hl.1 rfl (Nat.le_of_ble_eq_true rfl) dX1_leg_45 ⟨Nat.zero_le _, Nat.zero_le _⟩ ?_
      refine lv_goto (tgt := 55) hx hb dX1_leg_48 (by decide) ?_
      refine z_i2l hx hb (by omega) dX1_leg_55 ?_
      refine z_lmul hx hb dX1_leg_56 ?_
      refine lv_lstore (lv' := [(4, .long (jI ((zsp u k) * (sn (((Int.tmod (((zpo u k) + (zle u k)) + 32) 32) + 8) % 32))))), (3, .int (iI (Int.tmod (((zpo u k) + (zle u k)) + 32) 32))), (0, .ref (gM g 0)), (1, .int (iI k)), (2, .int (iI sd))]) hx hb dX1_leg_57 hl (by decide) rfl (fun ls hl => ?_)
      refine lv_lload hx hb dX1_leg_59 (lv_at hl 0 rfl) ?_
      refine lv_aload_n hx hb dX1_leg_61 rfl (lv_at hl 2 rfl) ?_
      refine gf_X1_116 (z := zdr u) hx hb hts hin m116 hown hK hP rfl dX1_leg_62 ?_
      refine z_i2l hx hb (by omega) dX1_leg_65 ?_
      refine lv_iload_n hx hb dX1_leg_66 rfl (lv_at hl 4 rfl) ?_
      refine z_if_ne (tgt := 80) hx hb dX1_leg_67 (by decide) (by omega) (fun c_8 => ?_) (fun c_8 => ?_)
      · refine lv_aload_n hx hb dX1_leg_80 rfl (lv_at hl 2 rfl) ?_
        refine gf_X1_119 (z := zse u) hx hb hts hin m119 hown hK hP rfl dX1_leg_81 ?_
        refine zS_i (As := [.int (iI (zse u))]) (rest := [.long (jI (zdr u)), .long (jI ((zsp u k) * (sn (((Int.tmod (((zpo u k) + (zle u k)) + 32) 32) + 8) % 32))))]) ⟨hx, hb, hml, hown, hts⟩ (PT) PT_blind PT_mv  (c_X1_sine l g (zse u) (by omega) (by omega)) (va_cwS 1 hts gX1_leg_X1_sine rfl rfl rfl (by decide +kernel) ⟨Nat.le_of_ble_eq_true rfl, Nat.le_of_ble_eq_true rfl⟩) rfl hl.1 rfl (Nat.le_of_ble_eq_true rfl) dX1_leg_84 ⟨Nat.zero_le _, Nat.zero_le _⟩ ?_
        refine z_i2l hx hb (by omega) dX1_leg_87 ?_
        refine z_lmul hx hb dX1_leg_88 ?_
        refine z_ladd hx hb dX1_leg_89 ?_
        exact zr_l hx hb hr hlocks dX1_leg_90 (by rcases hs with ⟨h1z, rfl⟩ | ⟨h1z, rfl⟩ <;> first | (exfalso; omega) | (rw [legc]; first | (rw [if_neg (by omega), hm8]; done) | (rw [if_neg (by omega), hm0]; done) | (rw [if_pos (by omega), hm8, hl8]; done) | (rw [if_pos (by omega), hm0, hl0]; done)))
      · refine lv_aload_n hx hb dX1_leg_70 rfl (lv_at hl 2 rfl) ?_
        refine gf_X1_119 (z := zse u) hx hb hts hin m119 hown hK hP rfl dX1_leg_71 ?_
        refine zS_i (As := [.int (iI (zse u))]) (rest := [.long (jI (zdr u)), .long (jI ((zsp u k) * (sn (((Int.tmod (((zpo u k) + (zle u k)) + 32) 32) + 8) % 32))))]) ⟨hx, hb, hml, hown, hts⟩ (PT) PT_blind PT_mv  (c_X1_cosine l g (zse u) (by omega) (by omega)) (va_cwS 1 hts gX1_leg_X1_cosine rfl rfl rfl (by decide +kernel) ⟨Nat.le_of_ble_eq_true rfl, Nat.le_of_ble_eq_true rfl⟩) rfl hl.1 rfl (Nat.le_of_ble_eq_true rfl) dX1_leg_74 ⟨Nat.zero_le _, Nat.zero_le _⟩ ?_
        refine lv_goto (tgt := 87) hx hb dX1_leg_77 (by decide) ?_
        refine z_i2l hx hb (by omega) dX1_leg_87 ?_
        refine z_lmul hx hb dX1_leg_88 ?_
        refine z_ladd hx hb dX1_leg_89 ?_
        exact zr_l hx hb hr hlocks dX1_leg_90 (by rcases hs with ⟨h1z, rfl⟩ | ⟨h1z, rfl⟩ <;> first | (exfalso; omega) | (rw [legc]; first | (rw [if_neg (by omega), hm8]; done) | (rw [if_neg (by omega), hm0]; done) | (rw [if_pos (by omega), hm8, hl8]; done) | (rw [if_pos (by omega), hm0, hl0]; done)))
  · refine z_lconst (z := 0) hx hb dX1_leg_29 rfl ?_
    refine lv_goto (tgt := 57) hx hb dX1_leg_30 (by decide) ?_
    refine lv_lstore (lv' := [(4, .long (jI 0)), (3, .int (iI (Int.tmod (((zpo u k) + (zle u k)) + 32) 32))), (0, .ref (gM g 0)), (1, .int (iI k)), (2, .int (iI sd))]) hx hb dX1_leg_57 hl (by decide) rfl (fun ls hl => ?_)
    refine lv_lload hx hb dX1_leg_59 (lv_at hl 0 rfl) ?_
    refine lv_aload_n hx hb dX1_leg_61 rfl (lv_at hl 2 rfl) ?_
    refine gf_X1_116 (z := zdr u) hx hb hts hin m116 hown hK hP rfl dX1_leg_62 ?_
    refine z_i2l hx hb (by omega) dX1_leg_65 ?_
    refine lv_iload_n hx hb dX1_leg_66 rfl (lv_at hl 4 rfl) ?_
    refine z_if_ne (tgt := 80) hx hb dX1_leg_67 (by decide) (by omega) (fun c_9 => ?_) (fun c_9 => ?_)
    · refine lv_aload_n hx hb dX1_leg_80 rfl (lv_at hl 2 rfl) ?_
      refine gf_X1_119 (z := zse u) hx hb hts hin m119 hown hK hP rfl dX1_leg_81 ?_
      refine zS_i (As := [.int (iI (zse u))]) (rest := [.long (jI (zdr u)), .long (jI 0)]) ⟨hx, hb, hml, hown, hts⟩ (PT) PT_blind PT_mv  (c_X1_sine l g (zse u) (by omega) (by omega)) (va_cwS 1 hts gX1_leg_X1_sine rfl rfl rfl (by decide +kernel) ⟨Nat.le_of_ble_eq_true rfl, Nat.le_of_ble_eq_true rfl⟩) rfl hl.1 rfl (Nat.le_of_ble_eq_true rfl) dX1_leg_84 ⟨Nat.zero_le _, Nat.zero_le _⟩ ?_
      refine z_i2l hx hb (by omega) dX1_leg_87 ?_
      refine z_lmul hx hb dX1_leg_88 ?_
      refine z_ladd hx hb dX1_leg_89 ?_
      exact zr_l hx hb hr hlocks dX1_leg_90 (by rcases hs with ⟨h1z, rfl⟩ | ⟨h1z, rfl⟩ <;> first | (exfalso; omega) | (rw [legc]; first | (rw [if_neg (by omega), hm8]; done) | (rw [if_neg (by omega), hm0]; done) | (rw [if_pos (by omega), hm8, hl8]; done) | (rw [if_pos (by omega), hm0, hl0]; done)))
    · refine lv_aload_n hx hb dX1_leg_70 rfl (lv_at hl 2 rfl) ?_
      refine gf_X1_119 (z := zse u) hx hb hts hin m119 hown hK hP rfl dX1_leg_71 ?_
      refine zS_i (As := [.int (iI (zse u))]) (rest := [.long (jI (zdr u)), .long (jI 0)]) ⟨hx, hb, hml, hown, hts⟩ (PT) PT_blind PT_mv  (c_X1_cosine l g (zse u) (by omega) (by omega)) (va_cwS 1 hts gX1_leg_X1_cosine rfl rfl rfl (by decide +kernel) ⟨Nat.le_of_ble_eq_true rfl, Nat.le_of_ble_eq_true rfl⟩) rfl hl.1 rfl (Nat.le_of_ble_eq_true rfl) dX1_leg_74 ⟨Nat.zero_le _, Nat.zero_le _⟩ ?_
      refine lv_goto (tgt := 87) hx hb dX1_leg_77 (by decide) ?_
      refine z_i2l hx hb (by omega) dX1_leg_87 ?_
      refine z_lmul hx hb dX1_leg_88 ?_
      refine z_ladd hx hb dX1_leg_89 ?_
      exact zr_l hx hb hr hlocks dX1_leg_90 (by rcases hs with ⟨h1z, rfl⟩ | ⟨h1z, rfl⟩ <;> first | (exfalso; omega) | (rw [legc]; first | (rw [if_neg (by omega), hm8]; done) | (rw [if_neg (by omega), hm0]; done) | (rw [if_pos (by omega), hm8, hl8]; done) | (rw [if_pos (by omega), hm0, hl0]; done)))
set_option maxHeartbeats 4000000 in
set_option maxRecDepth 100000 in
theorem c_X1_fixed (l : Launch) (g : GG) (u : ST) (v : VT) (k : Int) (sd : Int) (ax : Int) (hI : Inv u) (k0z : 0 ≤ k) (k1z : k ≤ 48) (hs : (sd = 0 ∧ ax = 8) ∨ (sd = 1 ∧ ax = 0)) : Met l yX1_fixed wsX1_fixed (k2_rm 0 0) (va_Pc [.ref (gM g 0), .int (iI k), .int (iI sd)] (fun U => PM g u v U U.heap)) (vp_Sl (fun r => r = jI (fxc u ax k))) 0 0 (fun _ => False) := by
  refine Met.ofW (cc := cX1_fixed) (maxL := 3) (ret := (some .long)) (by decide) rfl ?_
  intro pp ee s mm args below meth cc9 s₁ B hml hv
  obtain ⟨rfl, hPX⟩ := hv
  obtain ⟨hP, hK⟩ := id hPX
  have hx := B.exec
  have hb := B.bytes
  have hr := B.returns
  have hts := atoms_spec (ws := wsX1_fixed) B.pre
  have hown : s.vm.findClass RX1 = some mm.cls := findClass_of_methodNamed B.named
  have hlocks := B.notSynchronized
  have hin : ∀ w ∈ wsX10, w ∈ wsX1_fixed := fun w h => List.mem_cons_of_mem _ (List.mem_append_right _ h)
  have m29 : Cond.fieldLink RX1 29 "TraverseBoardModel" "fixNorth" "[J" ∈ wsX1_fixed := by decide +kernel
  have m33 : Cond.fieldLink RX1 33 "TraverseBoardModel" "fixEast" "[J" ∈ wsX1_fixed := by decide +kernel
  have hi_bl := iv_bl hI
  have hi_pg := iv_pg hI
  have hi_se := iv_se hI
  have hi_dr := iv_dr hI
  have hl := lv_entry ([.ref (gM g 0), .int (iI k), .int (iI sd)]) (n := 3) (Nat.le_of_ble_eq_true rfl)
  rw [lg_entry_eq]
  generalize (lg_sl ([.ref (gM g 0), .int (iI k), .int (iI sd)]) ++ List.replicate (3 - (lg_sl ([.ref (gM g 0), .int (iI k), .int (iI sd)])).length) Slot.unset).toArray = ls at hl ⊢
  have hl : lv_has ls 3 [(0, .ref (gM g 0)), (1, .int (iI k)), (2, .int (iI sd))] := hl
  refine lv_iload_n hx hb dX1_fixed_0 rfl (lv_at hl 2 rfl) ?_
  refine z_if_ne (tgt := 13) hx hb dX1_fixed_1 (by decide) (by omega) (fun c_1 => ?_) (fun c_1 => ?_)
  · refine lv_aload_n hx hb dX1_fixed_13 rfl (lv_at hl 0 rfl) ?_
    refine gf_X1_33 hx hb hts hin m33 hown hK hP dX1_fixed_14 ?_
    refine lv_iload_n hx hb dX1_fixed_17 rfl (lv_at hl 1 rfl) ?_
    refine al_X1_8 hx hb hK hP ⟨by omega, by omega⟩ dX1_fixed_18 ?_
    have hv_2 := iv_fe hI k
    exact zr_l hx hb hr hlocks dX1_fixed_19 (by unfold fxc; split <;> first | (exfalso; omega) | rfl)
  · refine lv_aload_n hx hb dX1_fixed_4 rfl (lv_at hl 0 rfl) ?_
    refine gf_X1_29 hx hb hts hin m29 hown hK hP dX1_fixed_5 ?_
    refine lv_iload_n hx hb dX1_fixed_8 rfl (lv_at hl 1 rfl) ?_
    refine al_X1_7 hx hb hK hP ⟨by omega, by omega⟩ dX1_fixed_9 ?_
    have hv_3 := iv_fn hI k
    refine lv_goto (tgt := 19) hx hb dX1_fixed_10 (by decide) ?_
    exact zr_l hx hb hr hlocks dX1_fixed_19 (by unfold fxc; split <;> first | (exfalso; omega) | rfl)
set_option maxHeartbeats 4000000 in
set_option maxRecDepth 100000 in
theorem c_X1_gone (l : Launch) (g : GG) (u : ST) (v : VT) (a : Int) (b : Int) (sd : Int) (ax : Int) (hI : Inv u) (k0z : 0 ≤ a) (k1z : a ≤ b) (k2z : b ≤ zpg u) (hs : (sd = 0 ∧ ax = 8) ∨ (sd = 1 ∧ ax = 0)) : Met l yX1_gone wsX1_gone (k2_rm 4 87) (va_Pc [.ref (gM g 0), .int (iI a), .int (iI b), .int (iI sd)] (fun U => PM g u v U U.heap)) (vp_Sl (fun r => r = jI (fxc u ax a + lg u ax a b))) 0 0 (fun _ => False) := by
  refine Met.ofW (cc := cX1_gone) (maxL := 7) (ret := (some .long)) (by decide) rfl ?_
  intro pp ee s mm args below meth cc9 s₁ B hml hv
  obtain ⟨rfl, hPX⟩ := hv
  obtain ⟨hP, hK⟩ := id hPX
  have hx := B.exec
  have hb := B.bytes
  have hr := B.returns
  have hts := atoms_spec (ws := wsX1_gone) B.pre
  have hown : s.vm.findClass RX1 = some mm.cls := findClass_of_methodNamed B.named
  have hlocks := B.notSynchronized
  have hin : ∀ w ∈ wsX10, w ∈ wsX1_gone := fun w h => List.mem_cons_of_mem _ (List.mem_append_right _ h)
  have hi_bl := iv_bl hI
  have hi_pg := iv_pg hI
  have hi_se := iv_se hI
  have hi_dr := iv_dr hI
  have hl := lv_entry ([.ref (gM g 0), .int (iI a), .int (iI b), .int (iI sd)]) (n := 7) (Nat.le_of_ble_eq_true rfl)
  rw [lg_entry_eq]
  generalize (lg_sl ([.ref (gM g 0), .int (iI a), .int (iI b), .int (iI sd)]) ++ List.replicate (7 - (lg_sl ([.ref (gM g 0), .int (iI a), .int (iI b), .int (iI sd)])).length) Slot.unset).toArray = ls at hl ⊢
  have hl : lv_has ls 7 [(0, .ref (gM g 0)), (1, .int (iI a)), (2, .int (iI b)), (3, .int (iI sd))] := hl
  refine lv_aload_n hx hb dX1_gone_0 rfl (lv_at hl 0 rfl) ?_
  refine lv_iload_n hx hb dX1_gone_1 rfl (lv_at hl 1 rfl) ?_
  refine lv_iload_n hx hb dX1_gone_2 rfl (lv_at hl 3 rfl) ?_
  refine zV_l (As := [.int (iI a), .int (iI sd)]) (rest := []) ⟨hx, hb, hml, hown, hts⟩ (PM g u v) (PM_blind g u v) (PM_mv hP hK) (rcM hK hP) (c_X1_fixed l g u v a sd ax hI (by omega) (by omega) (by omega)) (cwV 2 hts gX1_gone_X1_fixed rfl rfl rfl (by decide +kernel) ⟨Nat.le_of_ble_eq_true rfl, Nat.le_of_ble_eq_true rfl⟩) rfl hl.1 rfl (Nat.le_of_ble_eq_true rfl) dX1_gone_3 ⟨Nat.zero_le _, Nat.zero_le _⟩ ?_
  refine lv_lstore (lv' := [(4, .long (jI (fxc u ax a))), (0, .ref (gM g 0)), (1, .int (iI a)), (2, .int (iI b)), (3, .int (iI sd))]) hx hb dX1_gone_6 hl (by decide) rfl (fun ls hl => ?_)
  refine lv_iload_n hx hb dX1_gone_8 rfl (lv_at hl 2 rfl) ?_
  refine lv_istore (lv' := [(6, .int (iI a)), (4, .long (jI (fxc u ax a))), (0, .ref (gM g 0)), (1, .int (iI a)), (2, .int (iI b)), (3, .int (iI sd))]) hx hb dX1_gone_9 hl (by decide) rfl (fun ls hl => ?_)
  refine z_loop2 (nL := 7) (fun x t => (a ≤ t ∧ t ≤ b) ∧ (x = fxc u ax a + lg u ax a t)) (fun x t => (b - t).toNat) (fun x t => [(0, .ref (gM g 0)), (1, .int (iI a)), (2, .int (iI b)), (3, .int (iI sd)), (4, .long (jI x)), (6, .int (iI t))]) (fun x t ls hinv hl ih_11 => ?_) (fxc u ax a) a ls ⟨(by omega), (by rw [lg_0, Int.add_zero])⟩ (lv_sub hl [2, 3, 4, 5, 1, 0] rfl)
  have hinv : (a ≤ t ∧ t ≤ b) ∧ (x = fxc u ax a + lg u ax a t) := hinv
  obtain ⟨q1z, q3z⟩ := hinv
  have hl : lv_has ls 7 [(0, .ref (gM g 0)), (1, .int (iI a)), (2, .int (iI b)), (3, .int (iI sd)), (4, .long (jI x)), (6, .int (iI t))] := hl
  refine lv_iload hx hb dX1_gone_11 (lv_at hl 5 rfl) ?_
  refine lv_iload_n hx hb dX1_gone_13 rfl (lv_at hl 2 rfl) ?_
  refine z_icmp_ge (tgt := 35) hx hb dX1_gone_14 (by decide) (by omega) (by omega) (fun c_1 => ?_) (fun c_1 => ?_)
  · refine lv_lload hx hb dX1_gone_35 (lv_at hl 4 rfl) ?_
    exact zr_l hx hb hr hlocks dX1_gone_37 (by rw [q3z, show t = b by omega])
  · refine lv_lload hx hb dX1_gone_17 (lv_at hl 4 rfl) ?_
    refine lv_aload_n hx hb dX1_gone_19 rfl (lv_at hl 0 rfl) ?_
    refine lv_iload hx hb dX1_gone_20 (lv_at hl 5 rfl) ?_
    refine lv_iload_n hx hb dX1_gone_22 rfl (lv_at hl 3 rfl) ?_
    refine zV_l (As := [.int (iI t), .int (iI sd)]) (rest := [.long (jI x)]) ⟨hx, hb, hml, hown, hts⟩ (PM g u v) (PM_blind g u v) (PM_mv hP hK) (rcM hK hP) (c_X1_leg l g u v t sd ax hI (by omega) (by omega) (by omega)) (cwV 2 hts gX1_gone_X1_leg rfl rfl rfl (by decide +kernel) ⟨Nat.le_of_ble_eq_true rfl, Nat.le_of_ble_eq_true rfl⟩) rfl hl.1 rfl (Nat.le_of_ble_eq_true rfl) dX1_gone_23 ⟨Nat.zero_le _, Nat.zero_le _⟩ ?_
    refine z_ladd hx hb dX1_gone_26 ?_
    refine lv_lstore (lv' := [(4, .long (jI (x + (legc u ax t + mv ax (zse u) (zdr u))))), (0, .ref (gM g 0)), (1, .int (iI a)), (2, .int (iI b)), (3, .int (iI sd)), (6, .int (iI t))]) hx hb dX1_gone_27 hl (by decide) rfl (fun ls hl => ?_)
    refine z_iinc (k := 5) (lv' := [(6, .int (iI (t + 1))), (4, .long (jI (x + (legc u ax t + mv ax (zse u) (zdr u))))), (0, .ref (gM g 0)), (1, .int (iI a)), (2, .int (iI b)), (3, .int (iI sd))]) hx hb dX1_gone_29 hl rfl (by decide) rfl (fun ls hl => ?_)
    refine lv_goto (tgt := 11) hx hb dX1_gone_32 (by decide) ?_
    exact ih_11 (x + (legc u ax t + mv ax (zse u) (zdr u))) (t + 1) ls ⟨(by omega), (by rw [lg_s q1z.1, q3z, Int.add_assoc])⟩ (show (b - (t + 1)).toNat < (b - t).toNat by omega) (lv_sub hl [2, 3, 4, 5, 1, 0] rfl)
