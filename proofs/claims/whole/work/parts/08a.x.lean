/-! the class, by program (genx.py): X0_inRange X0_append X0_clearBuffer X0_blankEnds X0_agreement X0_pointInBuffer X0_digitEnds X0_number -/
set_option maxHeartbeats 4000000 in
set_option maxRecDepth 100000 in
theorem c_X0_inRange (l : Launch) (g : GG) (v : Int) (lo : Int) (hi : Int) (hb_v : B32 v) (hb_lo : B32 lo) (hb_hi : B32 hi) : Met l yX0_inRange wsX0_inRange (k2_rm 0 0) (va_Pc [.int (iI v), .int (iI lo), .int (iI hi)] (fun U => PT U U.heap)) (vp_Si (fun r => (r = iI 1 ∧ (lo ≤ v ∧ v ≤ hi)) ∨ (r = iI 0 ∧ ¬ (lo ≤ v ∧ v ≤ hi)))) 0 0 (fun _ => False) := by
  refine Met.ofW (cc := cX0_inRange) (maxL := 3) (ret := (some .boolean)) (by decide) rfl ?_
  intro pp ee s mm args below meth cc9 s₁ B hml hv
  obtain ⟨rfl, hPX⟩ := hv
  have hx := B.exec
  have hb := B.bytes
  have hr := B.returns
  have hts := atoms_spec (ws := wsX0_inRange) B.pre
  have hown : s.vm.findClass RX0 = some mm.cls := findClass_of_methodNamed B.named
  have hlocks := B.notSynchronized
  have hl := lv_entry ([.int (iI v), .int (iI lo), .int (iI hi)]) (n := 3) (Nat.le_of_ble_eq_true rfl)
  rw [lg_entry_eq]
  generalize (lg_sl ([.int (iI v), .int (iI lo), .int (iI hi)]) ++ List.replicate (3 - (lg_sl ([.int (iI v), .int (iI lo), .int (iI hi)])).length) Slot.unset).toArray = ls at hl ⊢
  have hl : lv_has ls 3 [(0, .int (iI v)), (1, .int (iI lo)), (2, .int (iI hi))] := hl
  refine lv_iload_n hx hb dX0_inRange_0 rfl (lv_at hl 0 rfl) ?_
  refine lv_iload_n hx hb dX0_inRange_1 rfl (lv_at hl 1 rfl) ?_
  refine z_icmp_lt (tgt := 14) hx hb dX0_inRange_2 (by decide) (by omega) (by omega) (fun c_1 => ?_) (fun c_1 => ?_)
  · refine z_iconst hx hb dX0_inRange_14 ?_
    exact zr_0 hx hb hr hlocks dX0_inRange_15 (by omega)
  · refine lv_iload_n hx hb dX0_inRange_5 rfl (lv_at hl 0 rfl) ?_
    refine lv_iload_n hx hb dX0_inRange_6 rfl (lv_at hl 2 rfl) ?_
    refine z_icmp_gt (tgt := 14) hx hb dX0_inRange_7 (by decide) (by omega) (by omega) (fun c_2 => ?_) (fun c_2 => ?_)
    · refine z_iconst hx hb dX0_inRange_14 ?_
      exact zr_0 hx hb hr hlocks dX0_inRange_15 (by omega)
    · refine z_iconst hx hb dX0_inRange_10 ?_
      refine lv_goto (tgt := 15) hx hb dX0_inRange_11 (by decide) ?_
      exact zr_1 hx hb hr hlocks dX0_inRange_15 (by omega)
set_option maxHeartbeats 4000000 in
set_option maxRecDepth 100000 in
theorem c_X0_append (l : Launch) (g : GG) (u : ST) (hg : gOk g) (c : Int) (hI : Inv u) (hb_c : B32 c) : Met l yX0_append wsX0_append (k2_rm 1 22) (va_Pc [.ref (gX g 0), .int (iI c)] (fun U => PY g u U U.heap)) (va_Ql (fun r (_ : Unit) => r = jI (apR u c)) (fun _ t => (fun H9 => va_P (gD g) vwCl (wX g (apU u c)) H9) t.heap) (aX g)) 0 0 (aX g) := by
  refine Met.ofW (cc := cX0_append) (maxL := 2) (ret := (some .long)) (by decide) rfl ?_
  intro pp ee s mm args below meth cc9 s₁ B hml hv
  obtain ⟨rfl, hPX⟩ := hv
  obtain ⟨hP, hK⟩ := id hPX
  have hx := B.exec
  have hb := B.bytes
  have hr := B.returns
  have hts := atoms_spec (ws := wsX0_append) B.pre
  have hown : s.vm.findClass RX0 = some mm.cls := findClass_of_methodNamed B.named
  have hlocks := B.notSynchronized
  have hin : ∀ w ∈ wsX00, w ∈ wsX0_append := fun w h => List.mem_cons_of_mem _ (List.mem_append_right _ h)
  have m39 : Cond.constantLong RX0 39 (-9000000000000000001) ∈ wsX0_append := by decide +kernel
  have m41 : Cond.fieldLink RX0 41 "TraverseBoard" "bufferLength" "I" ∈ wsX0_append := by decide +kernel
  have m45 : Cond.constantLong RX0 45 (-9000000000000000004) ∈ wsX0_append := by decide +kernel
  have m9z : Cond.fieldLink RX0 9 "TraverseBoard" "buffer" "[I" ∈ wsX0_append := by decide +kernel
  have hS : va_S (aX g) s.heap s.heap [] := va_S.rf
  have hi_bl := iv_bl hI
  have hi_pg := iv_pg hI
  have hi_se := iv_se hI
  have hi_dr := iv_dr hI
  have hl := lv_entry ([.ref (gX g 0), .int (iI c)]) (n := 2) (Nat.le_of_ble_eq_true rfl)
  rw [lg_entry_eq]
  generalize (lg_sl ([.ref (gX g 0), .int (iI c)]) ++ List.replicate (2 - (lg_sl ([.ref (gX g 0), .int (iI c)])).length) Slot.unset).toArray = ls at hl ⊢
  have hl : lv_has ls 2 [(0, .ref (gX g 0)), (1, .int (iI c))] := hl
  refine lv_iload_n hx hb dX0_append_0 rfl (lv_at hl 1 rfl) ?_
  refine z_bipush hx hb dX0_append_1 (by decide +kernel) ?_
  refine z_bipush hx hb dX0_append_3 (by decide +kernel) ?_
  refine zS_z (As := [.int (iI c), .int (iI 32), .int (iI 126)]) (rest := []) ⟨hx, hb, hml, hown, hts⟩ (PT) PT_blind PT_mv  (c_X0_inRange l g c 32 126 (by omega) (by omega) (by omega)) (va_cwS 3 hts gX0_append_X0_inRange rfl rfl rfl (by decide +kernel) ⟨Nat.le_of_ble_eq_true rfl, Nat.le_of_ble_eq_true rfl⟩) rfl hl.1 rfl (Nat.le_of_ble_eq_true rfl) dX0_append_5 ⟨Nat.zero_le _, Nat.zero_le _⟩ (fun c_1 => ?_) (fun c_1 => ?_)
  · refine z_if_ne (tgt := 15) hx hb dX0_append_8 (by decide) ⟨by decide, by decide⟩ (fun c_2 => ?_) (fun c_2 => (absurd c_2 (by decide)))
    refine lv_aload_n hx hb dX0_append_15 rfl (lv_at hl 0 rfl) ?_
    refine gf_X0_41 (z := zbl u) hx hb hts hin m41 hown hK hP rfl dX0_append_16 ?_
    refine z_bipush hx hb dX0_append_19 (by decide +kernel) ?_
    refine z_icmp_lt (tgt := 28) hx hb dX0_append_21 (by decide) (by omega) ⟨by decide, by decide⟩ (fun c_3 => ?_) (fun c_3 => ?_)
    · refine lv_aload_n hx hb dX0_append_28 rfl (lv_at hl 0 rfl) ?_
      refine gf_X0_9 hx hb hts hin m9z hown hK hP dX0_append_29 ?_
      refine lv_aload_n hx hb dX0_append_32 rfl (lv_at hl 0 rfl) ?_
      refine gf_X0_41 (z := zbl u) hx hb hts hin m41 hown hK hP rfl dX0_append_33 ?_
      refine lv_iload_n hx hb dX0_append_36 rfl (lv_at hl 1 rfl) ?_
      refine as_X0_1 hx hb hK hP (wX_D hg _) hS ⟨by omega, by omega⟩ dX0_append_37 (fun H locs hP hS => ?_)
      refine lv_aload_n hx hb dX0_append_38 rfl (lv_at hl 0 rfl) ?_
      refine lv_dup hx hb dX0_append_39 rfl ?_
      refine gf_X0_41 (z := zbl u) hx hb hts hin m41 hown hK hP rfl dX0_append_40 ?_
      refine z_iconst hx hb dX0_append_43 ?_
      refine z_iadd hx hb dX0_append_44 ?_
      refine pf_X0_41 hx hb hts hin m41 hown hK hP (wX_D hg _) hS dX0_append_45 (fun H locs hP hS => ?_)
      refine lv_aload_n hx hb dX0_append_48 rfl (lv_at hl 0 rfl) ?_
      refine gf_X0_41 (z := (zbl u) + 1) hx hb hts hin m41 hown hK hP rfl dX0_append_49 ?_
      refine z_i2l hx hb (by omega) dX0_append_52 ?_
      exact zw_l (Post := (fun H9 => va_P (gD g) vwCl (wX g (apU u c)) H9)) hx hb hr hlocks dX0_append_53 hS (by unfold apR eOR eFU; (repeat' split) <;> first | rfl | omega) (by unfold apU; split <;> first | exact hP | (exfalso; omega))
    · refine lv_ldc2 (v := jI (-9000000000000000004)) hx hb hown (hts _ m45) dX0_append_24 ?_
      exact zw_l (Post := (fun H9 => va_P (gD g) vwCl (wX g (apU u c)) H9)) hx hb hr hlocks dX0_append_27 hS (by unfold apR eOR eFU; (repeat' split) <;> first | rfl | omega) (by unfold apU; split <;> first | exact hP | (exfalso; omega))
  · refine z_if_ne (tgt := 15) hx hb dX0_append_8 (by decide) ⟨by decide, by decide⟩ (fun c_4 => (absurd c_4 (by decide))) (fun c_4 => ?_)
    refine lv_ldc2 (v := jI (-9000000000000000001)) hx hb hown (hts _ m39) dX0_append_11 ?_
    exact zw_l (Post := (fun H9 => va_P (gD g) vwCl (wX g (apU u c)) H9)) hx hb hr hlocks dX0_append_14 hS (by unfold apR eOR eFU; (repeat' split) <;> first | rfl | omega) (by unfold apU; split <;> first | exact hP | (exfalso; omega))
set_option maxHeartbeats 4000000 in
set_option maxRecDepth 100000 in
theorem c_X0_clearBuffer (l : Launch) (g : GG) (u : ST) (hg : gOk g) (hI : Inv u) : Met l yX0_clearBuffer wsX0_clearBuffer (k2_rm 0 0) (va_Pc [.ref (gX g 0)] (fun U => PY g u U U.heap)) (va_Ql (fun r (_ : Unit) => r = jI (zbl u)) (fun _ t => (fun H9 => va_P (gD g) vwCl (wX g (ubl u 0)) H9) t.heap) (aX g)) 0 0 (aX g) := by
  refine Met.ofW (cc := cX0_clearBuffer) (maxL := 2) (ret := (some .long)) (by decide) rfl ?_
  intro pp ee s mm args below meth cc9 s₁ B hml hv
  obtain ⟨rfl, hPX⟩ := hv
  obtain ⟨hP, hK⟩ := id hPX
  have hx := B.exec
  have hb := B.bytes
  have hr := B.returns
  have hts := atoms_spec (ws := wsX0_clearBuffer) B.pre
  have hown : s.vm.findClass RX0 = some mm.cls := findClass_of_methodNamed B.named
  have hlocks := B.notSynchronized
  have hin : ∀ w ∈ wsX00, w ∈ wsX0_clearBuffer := fun w h => List.mem_cons_of_mem _ (List.mem_append_right _ h)
  have m41 : Cond.fieldLink RX0 41 "TraverseBoard" "bufferLength" "I" ∈ wsX0_clearBuffer := by decide +kernel
  have hS : va_S (aX g) s.heap s.heap [] := va_S.rf
  have hi_bl := iv_bl hI
  have hi_pg := iv_pg hI
  have hi_se := iv_se hI
  have hi_dr := iv_dr hI
  have hl := lv_entry ([.ref (gX g 0)]) (n := 2) (Nat.le_of_ble_eq_true rfl)
  rw [lg_entry_eq]
  generalize (lg_sl ([.ref (gX g 0)]) ++ List.replicate (2 - (lg_sl ([.ref (gX g 0)])).length) Slot.unset).toArray = ls at hl ⊢
  have hl : lv_has ls 2 [(0, .ref (gX g 0))] := hl
  refine lv_aload_n hx hb dX0_clearBuffer_0 rfl (lv_at hl 0 rfl) ?_
  refine gf_X0_41 (z := zbl u) hx hb hts hin m41 hown hK hP rfl dX0_clearBuffer_1 ?_
  refine lv_istore_n (lv' := [(1, .int (iI (zbl u))), (0, .ref (gX g 0))]) hx hb dX0_clearBuffer_4 rfl hl (by decide) rfl (fun ls hl => ?_)
  refine lv_aload_n hx hb dX0_clearBuffer_5 rfl (lv_at hl 1 rfl) ?_
  refine z_iconst hx hb dX0_clearBuffer_6 ?_
  refine pf_X0_41 hx hb hts hin m41 hown hK hP (wX_D hg _) hS dX0_clearBuffer_7 (fun H locs hP hS => ?_)
  refine lv_iload_n hx hb dX0_clearBuffer_10 rfl (lv_at hl 0 rfl) ?_
  refine z_i2l hx hb (by omega) dX0_clearBuffer_11 ?_
  exact zw_l (Post := (fun H9 => va_P (gD g) vwCl (wX g (ubl u 0)) H9)) hx hb hr hlocks dX0_clearBuffer_12 hS (by first | rfl | omega) hP
set_option maxHeartbeats 4000000 in
set_option maxRecDepth 100000 in
theorem c_X0_blankEnds (l : Launch) (g : GG) (u : ST) (n : Int) (hI : Inv u) (k0z : 0 ≤ n) (k1z : n ≤ 12) : Met l yX0_blankEnds wsX0_blankEnds (k2_rm 0 0) (va_Pc [.ref (gX g 0), .int (iI n)] (fun U => PY g u U U.heap)) (vp_Si (fun r => (r = iI 1 ∧ (0 < n ∧ zbu u (n - 1) = 32)) ∨ (r = iI 0 ∧ ¬ (0 < n ∧ zbu u (n - 1) = 32)))) 0 0 (fun _ => False) := by
  refine Met.ofW (cc := cX0_blankEnds) (maxL := 2) (ret := (some .boolean)) (by decide) rfl ?_
  intro pp ee s mm args below meth cc9 s₁ B hml hv
  obtain ⟨rfl, hPX⟩ := hv
  obtain ⟨hP, hK⟩ := id hPX
  have hx := B.exec
  have hb := B.bytes
  have hr := B.returns
  have hts := atoms_spec (ws := wsX0_blankEnds) B.pre
  have hown : s.vm.findClass RX0 = some mm.cls := findClass_of_methodNamed B.named
  have hlocks := B.notSynchronized
  have hin : ∀ w ∈ wsX00, w ∈ wsX0_blankEnds := fun w h => List.mem_cons_of_mem _ (List.mem_append_right _ h)
  have m9z : Cond.fieldLink RX0 9 "TraverseBoard" "buffer" "[I" ∈ wsX0_blankEnds := by decide +kernel
  have hi_bl := iv_bl hI
  have hi_pg := iv_pg hI
  have hi_se := iv_se hI
  have hi_dr := iv_dr hI
  have hl := lv_entry ([.ref (gX g 0), .int (iI n)]) (n := 2) (Nat.le_of_ble_eq_true rfl)
  rw [lg_entry_eq]
  generalize (lg_sl ([.ref (gX g 0), .int (iI n)]) ++ List.replicate (2 - (lg_sl ([.ref (gX g 0), .int (iI n)])).length) Slot.unset).toArray = ls at hl ⊢
  have hl : lv_has ls 2 [(0, .ref (gX g 0)), (1, .int (iI n))] := hl
  refine lv_iload_n hx hb dX0_blankEnds_0 rfl (lv_at hl 1 rfl) ?_
  refine z_if_le (tgt := 21) hx hb dX0_blankEnds_1 (by decide) (by omega) (fun c_1 => ?_) (fun c_1 => ?_)
  · refine z_iconst hx hb dX0_blankEnds_21 ?_
    exact zr_0 hx hb hr hlocks dX0_blankEnds_22 (by omega)
  · refine lv_aload_n hx hb dX0_blankEnds_4 rfl (lv_at hl 0 rfl) ?_
    refine gf_X0_9 hx hb hts hin m9z hown hK hP dX0_blankEnds_5 ?_
    refine lv_iload_n hx hb dX0_blankEnds_8 rfl (lv_at hl 1 rfl) ?_
    refine z_iconst hx hb dX0_blankEnds_9 ?_
    refine z_isub hx hb dX0_blankEnds_10 ?_
    refine al_X0_1 hx hb hK hP ⟨by omega, by omega⟩ dX0_blankEnds_11 ?_
    have hv_2 := iv_bu hI (n - 1)
    refine z_bipush hx hb dX0_blankEnds_12 (by decide +kernel) ?_
    refine z_icmp_ne (tgt := 21) hx hb dX0_blankEnds_14 (by decide) (by omega) ⟨by decide, by decide⟩ (fun c_3 => ?_) (fun c_3 => ?_)
    · refine z_iconst hx hb dX0_blankEnds_21 ?_
      exact zr_0 hx hb hr hlocks dX0_blankEnds_22 (by omega)
    · refine z_iconst hx hb dX0_blankEnds_17 ?_
      refine lv_goto (tgt := 22) hx hb dX0_blankEnds_18 (by decide) ?_
      exact zr_1 hx hb hr hlocks dX0_blankEnds_22 (by omega)
set_option maxHeartbeats 4000000 in
set_option maxRecDepth 100000 in
theorem c_X0_agreement (l : Launch) (g : GG) (u : ST) (p : Int) (hI : Inv u) (k0z : 0 ≤ p) (k1z : p ≤ 31) : Met l yX0_agreement wsX0_agreement (k2_rm 6 126) (va_Pc [.ref (gX g 0), .int (iI p)] (fun U => PX g u U U.heap)) (vp_Si (fun r => r = iI (ag u p))) 0 0 (fun _ => False) := by
  refine Met.ofW (cc := cX0_agreement) (maxL := 3) (ret := (some .int)) (by decide) rfl ?_
  intro pp ee s mm args below meth cc9 s₁ B hml hv
  obtain ⟨rfl, hPX⟩ := hv
  obtain ⟨hP, hK, hZS⟩ := id hPX
  have hx := B.exec
  have hb := B.bytes
  have hr := B.returns
  have hts := atoms_spec (ws := wsX0_agreement) B.pre
  have hown : s.vm.findClass RX0 = some mm.cls := findClass_of_methodNamed B.named
  have hlocks := B.notSynchronized
  have hin : ∀ w ∈ wsX00, w ∈ wsX0_agreement := fun w h => List.mem_cons_of_mem _ (List.mem_append_right _ h)
  have m41 : Cond.fieldLink RX0 41 "TraverseBoard" "bufferLength" "I" ∈ wsX0_agreement := by decide +kernel
  have m9z : Cond.fieldLink RX0 9 "TraverseBoard" "buffer" "[I" ∈ wsX0_agreement := by decide +kernel
  have hS0 : va_S nA s.heap s.heap [] := va_S.rf
  have hi_bl := iv_bl hI
  have hi_pg := iv_pg hI
  have hi_se := iv_se hI
  have hi_dr := iv_dr hI
  have hl := lv_entry ([.ref (gX g 0), .int (iI p)]) (n := 3) (Nat.le_of_ble_eq_true rfl)
  rw [lg_entry_eq]
  generalize (lg_sl ([.ref (gX g 0), .int (iI p)]) ++ List.replicate (3 - (lg_sl ([.ref (gX g 0), .int (iI p)])).length) Slot.unset).toArray = ls at hl ⊢
  have hl : lv_has ls 3 [(0, .ref (gX g 0)), (1, .int (iI p))] := hl
  refine z_iconst hx hb dX0_agreement_0 ?_
  refine lv_istore_n (lv' := [(2, .int (iI 0)), (0, .ref (gX g 0)), (1, .int (iI p))]) hx hb dX0_agreement_1 rfl hl (by decide) rfl (fun ls hl => ?_)
  refine z_loop1 (nL := 3) (fun j => (0 ≤ j ∧ j ≤ 5) ∧ (j ≤ zbl u) ∧ (ag u p = agn u p (5 - j).toNat j)) (fun j => (5 - j).toNat) (fun j => [(0, .ref (gX g 0)), (1, .int (iI p)), (2, .int (iI j))]) (fun j ls hinv hl ih_2 => ?_) 0 ls ⟨(by omega), (by omega), (by rfl)⟩ (lv_sub hl [1, 2, 0] rfl)
  have hinv : (0 ≤ j ∧ j ≤ 5) ∧ (j ≤ zbl u) ∧ (ag u p = agn u p (5 - j).toNat j) := hinv
  obtain ⟨q1z, q2z, q3z⟩ := hinv
  have hl : lv_has ls 3 [(0, .ref (gX g 0)), (1, .int (iI p)), (2, .int (iI j))] := hl
  refine lv_iload_n hx hb dX0_agreement_2 rfl (lv_at hl 2 rfl) ?_
  refine lv_aload_n hx hb dX0_agreement_3 rfl (lv_at hl 0 rfl) ?_
  refine gf_X0_41 (z := zbl u) hx hb hts hin m41 hown hK hP rfl dX0_agreement_4 ?_
  refine z_icmp_ge (tgt := 48) hx hb dX0_agreement_7 (by decide) (by omega) (by omega) (fun c_1 => ?_) (fun c_1 => ?_)
  · refine lv_iload_n hx hb dX0_agreement_48 rfl (lv_at hl 2 rfl) ?_
    exact zr_i hx hb hr hlocks dX0_agreement_49 (by rw [q3z, agn_stop (by omega)])
  · refine lv_iload_n hx hb dX0_agreement_10 rfl (lv_at hl 2 rfl) ?_
    refine z_iconst hx hb dX0_agreement_11 ?_
    refine z_icmp_ge (tgt := 48) hx hb dX0_agreement_12 (by decide) (by omega) ⟨by decide, by decide⟩ (fun c_2 => ?_) (fun c_2 => ?_)
    · refine lv_iload_n hx hb dX0_agreement_48 rfl (lv_at hl 2 rfl) ?_
      exact zr_i hx hb hr hlocks dX0_agreement_49 (by rw [q3z, agn_stop (by omega)])
    · refine lv_aload_n hx hb dX0_agreement_15 rfl (lv_at hl 0 rfl) ?_
      refine lv_iload_n hx hb dX0_agreement_16 rfl (lv_at hl 2 rfl) ?_
      refine zV_z (As := [.int (iI j)]) (rest := []) ⟨hx, hb, hml, hown, hts⟩ (PY g u) (PY_blind g u) (PY_mv hP hK) (rcX hK hP) (c_X0_blankEnds l g u j hI (by omega) (by omega)) (cwV 1 hts gX0_agreement_X0_blankEnds rfl rfl rfl (by decide +kernel) ⟨Nat.le_of_ble_eq_true rfl, Nat.le_of_ble_eq_true rfl⟩) rfl hl.1 rfl (Nat.le_of_ble_eq_true rfl) dX0_agreement_17 ⟨Nat.zero_le _, Nat.zero_le _⟩ (fun c_3 => ?_) (fun c_3 => ?_)
      · refine z_if_ne (tgt := 48) hx hb dX0_agreement_20 (by decide) ⟨by decide, by decide⟩ (fun c_4 => ?_) (fun c_4 => (absurd c_4 (by decide)))
        refine lv_iload_n hx hb dX0_agreement_48 rfl (lv_at hl 2 rfl) ?_
        exact zr_i hx hb hr hlocks dX0_agreement_49 (by rw [q3z, agn_stop (by omega)])
      · refine z_if_ne (tgt := 48) hx hb dX0_agreement_20 (by decide) ⟨by decide, by decide⟩ (fun c_5 => (absurd c_5 (by decide))) (fun c_5 => ?_)
        refine lv_aload_n hx hb dX0_agreement_23 rfl (lv_at hl 0 rfl) ?_
        refine gf_X0_9 hx hb hts hin m9z hown hK hP dX0_agreement_24 ?_
        refine lv_iload_n hx hb dX0_agreement_27 rfl (lv_at hl 2 rfl) ?_
        refine al_X0_1 hx hb hK hP ⟨by omega, by omega⟩ dX0_agreement_28 ?_
        have hv_6 := iv_bu hI j
        refine va_ldcS hx hb hown hZS.2.2.1 dX0_agreement_29 ?_
        refine z_iconst hx hb dX0_agreement_31 ?_
        refine lv_iload_n hx hb dX0_agreement_32 rfl (lv_at hl 1 rfl) ?_
        refine z_imul hx hb dX0_agreement_33 ?_
        refine lv_iload_n hx hb dX0_agreement_34 rfl (lv_at hl 2 rfl) ?_
        refine z_iadd hx hb dX0_agreement_35 ?_
        refine zV_i (As := [.int (iI ((5 * p) + j))]) (rest := [.int (iI (zbu u j))]) ⟨hx, hb, hml, hown, hts⟩ (PZ g) (PZ_blind g) (PZ_mv hZS) (rcS hZS hS0) (c_J0_charAt_5068e l g ((5 * p) + j) (by omega) (by omega)) (cwV 1 hts gX0_agreement_J0_charAt_5068e rfl rfl rfl (by decide +kernel) ⟨Nat.le_of_ble_eq_true rfl, Nat.le_of_ble_eq_true rfl⟩) rfl hl.1 rfl (Nat.le_of_ble_eq_true rfl) dX0_agreement_36 ⟨Nat.zero_le _, Nat.zero_le _⟩ ?_
        have hv9 := nm_rng (5 * p + j)
        refine z_icmp_ne (tgt := 48) hx hb dX0_agreement_39 (by decide) (by omega) (by omega) (fun c_7 => ?_) (fun c_7 => ?_)
        · refine lv_iload_n hx hb dX0_agreement_48 rfl (lv_at hl 2 rfl) ?_
          exact zr_i hx hb hr hlocks dX0_agreement_49 (by rw [q3z, agn_stop (by omega)])
        · refine z_iinc (k := 2) (lv' := [(2, .int (iI (j + 1))), (0, .ref (gX g 0)), (1, .int (iI p))]) hx hb dX0_agreement_42 hl rfl (by decide) rfl (fun ls hl => ?_)
          refine lv_goto (tgt := 2) hx hb dX0_agreement_45 (by decide) ?_
          exact ih_2 (j + 1) ls ⟨(by omega), (by omega), (by rw [q3z, show (5 - j).toNat = (5 - (j + 1)).toNat + 1 by omega]; exact agn_go (by omega) _)⟩ (show (5 - (j + 1)).toNat < (5 - j).toNat by omega) (lv_sub hl [1, 2, 0] rfl)
set_option maxHeartbeats 4000000 in
set_option maxRecDepth 100000 in
theorem c_X0_pointInBuffer (l : Launch) (g : GG) (u : ST) (hI : Inv u) : Met l yX0_pointInBuffer wsX0_pointInBuffer (k2_rm 7 148) (va_Pc [.ref (gX g 0)] (fun U => PX g u U U.heap)) (vp_Si (fun r => r = iI (pb u))) 0 0 (fun _ => False) := by
  refine Met.ofW (cc := cX0_pointInBuffer) (maxL := 3) (ret := (some .int)) (by decide) rfl ?_
  intro pp ee s mm args below meth cc9 s₁ B hml hv
  obtain ⟨rfl, hPX⟩ := hv
  obtain ⟨hP, hK, hZS⟩ := id hPX
  have hx := B.exec
  have hb := B.bytes
  have hr := B.returns
  have hts := atoms_spec (ws := wsX0_pointInBuffer) B.pre
  have hown : s.vm.findClass RX0 = some mm.cls := findClass_of_methodNamed B.named
  have hlocks := B.notSynchronized
  have hin : ∀ w ∈ wsX00, w ∈ wsX0_pointInBuffer := fun w h => List.mem_cons_of_mem _ (List.mem_append_right _ h)
  have hS0 : va_S nA s.heap s.heap [] := va_S.rf
  have hi_bl := iv_bl hI
  have hi_pg := iv_pg hI
  have hi_se := iv_se hI
  have hi_dr := iv_dr hI
  have hl := lv_entry ([.ref (gX g 0)]) (n := 3) (Nat.le_of_ble_eq_true rfl)
  rw [lg_entry_eq]
  generalize (lg_sl ([.ref (gX g 0)]) ++ List.replicate (3 - (lg_sl ([.ref (gX g 0)])).length) Slot.unset).toArray = ls at hl ⊢
  have hl : lv_has ls 3 [(0, .ref (gX g 0))] := hl
  refine z_iconst hx hb dX0_pointInBuffer_0 ?_
  refine lv_istore_n (lv' := [(1, .int (iI 0)), (0, .ref (gX g 0))]) hx hb dX0_pointInBuffer_1 rfl hl (by decide) rfl (fun ls hl => ?_)
  refine z_iconst hx hb dX0_pointInBuffer_2 ?_
  refine lv_istore_n (lv' := [(2, .int (iI 1)), (1, .int (iI 0)), (0, .ref (gX g 0))]) hx hb dX0_pointInBuffer_3 rfl hl (by decide) rfl (fun ls hl => ?_)
  refine z_loop2 (nL := 3) (fun f q => (1 ≤ q ∧ q ≤ 32) ∧ (f = pbn u (q - 1).toNat) ∧ (0 ≤ f ∧ f ≤ 31)) (fun f q => (32 - q).toNat) (fun f q => [(0, .ref (gX g 0)), (1, .int (iI f)), (2, .int (iI q))]) (fun f q ls hinv hl ih_4 => ?_) 0 1 ls ⟨(by omega), (by rfl), (by omega)⟩ (lv_sub hl [2, 1, 0] rfl)
  have hinv : (1 ≤ q ∧ q ≤ 32) ∧ (f = pbn u (q - 1).toNat) ∧ (0 ≤ f ∧ f ≤ 31) := hinv
  obtain ⟨q1z, q2z, q3z⟩ := hinv
  have hl : lv_has ls 3 [(0, .ref (gX g 0)), (1, .int (iI f)), (2, .int (iI q))] := hl
  have hs := pbn_s u (k := q - 1) (by omega)
  have ha1 := ag_rng hI q
  have ha2 := ag_rng hI f
  rw [show q - 1 + 1 = q by omega, ← q2z] at hs
  refine lv_iload_n hx hb dX0_pointInBuffer_4 rfl (lv_at hl 2 rfl) ?_
  refine z_bipush hx hb dX0_pointInBuffer_5 (by decide +kernel) ?_
  refine z_icmp_ge (tgt := 31) hx hb dX0_pointInBuffer_7 (by decide) (by omega) ⟨by decide, by decide⟩ (fun c_1 => ?_) (fun c_1 => ?_)
  · refine lv_iload_n hx hb dX0_pointInBuffer_31 rfl (lv_at hl 1 rfl) ?_
    exact zr_i hx hb hr hlocks dX0_pointInBuffer_32 (by rw [q2z, show q = 32 by omega]; rfl)
  · refine lv_aload_n hx hb dX0_pointInBuffer_10 rfl (lv_at hl 0 rfl) ?_
    refine lv_iload_n hx hb dX0_pointInBuffer_11 rfl (lv_at hl 2 rfl) ?_
    refine zV_i (As := [.int (iI q)]) (rest := []) ⟨hx, hb, hml, hown, hts⟩ (PX g u) (PX_blind g u) (PX_mv hPX) (rcX hK hP) (c_X0_agreement l g u q hI (by omega) (by omega)) (cwV 1 hts gX0_pointInBuffer_X0_agreement rfl rfl rfl (by decide +kernel) ⟨Nat.le_of_ble_eq_true rfl, Nat.le_of_ble_eq_true rfl⟩) rfl hl.1 rfl (Nat.le_of_ble_eq_true rfl) dX0_pointInBuffer_12 ⟨Nat.zero_le _, Nat.zero_le _⟩ ?_
    refine lv_aload_n hx hb dX0_pointInBuffer_15 rfl (lv_at hl 0 rfl) ?_
    refine lv_iload_n hx hb dX0_pointInBuffer_16 rfl (lv_at hl 1 rfl) ?_
    refine zV_i (As := [.int (iI f)]) (rest := [.int (iI (ag u q))]) ⟨hx, hb, hml, hown, hts⟩ (PX g u) (PX_blind g u) (PX_mv hPX) (rcX hK hP) (c_X0_agreement l g u f hI (by omega) (by omega)) (cwV 1 hts gX0_pointInBuffer_X0_agreement rfl rfl rfl (by decide +kernel) ⟨Nat.le_of_ble_eq_true rfl, Nat.le_of_ble_eq_true rfl⟩) rfl hl.1 rfl (Nat.le_of_ble_eq_true rfl) dX0_pointInBuffer_17 ⟨Nat.zero_le _, Nat.zero_le _⟩ ?_
    refine z_icmp_le (tgt := 25) hx hb dX0_pointInBuffer_20 (by decide) (by omega) (by omega) (fun c_2 => ?_) (fun c_2 => ?_)
    · refine z_iinc (k := 2) (lv' := [(2, .int (iI (q + 1))), (0, .ref (gX g 0)), (1, .int (iI f))]) hx hb dX0_pointInBuffer_25 hl rfl (by decide) rfl (fun ls hl => ?_)
      refine lv_goto (tgt := 4) hx hb dX0_pointInBuffer_28 (by decide) ?_
      exact ih_4 f (q + 1) ls ⟨(by omega), (by rw [show q + 1 - 1 = q by omega, hs]; first | rw [if_pos (by omega)] | rw [if_neg (by omega)]), (by omega)⟩ (show (32 - (q + 1)).toNat < (32 - q).toNat by omega) (lv_sub hl [1, 2, 0] rfl)
    · refine lv_iload_n hx hb dX0_pointInBuffer_23 rfl (lv_at hl 2 rfl) ?_
      refine lv_istore_n (lv' := [(1, .int (iI q)), (0, .ref (gX g 0)), (2, .int (iI q))]) hx hb dX0_pointInBuffer_24 rfl hl (by decide) rfl (fun ls hl => ?_)
      refine z_iinc (k := 2) (lv' := [(2, .int (iI (q + 1))), (1, .int (iI q)), (0, .ref (gX g 0))]) hx hb dX0_pointInBuffer_25 hl rfl (by decide) rfl (fun ls hl => ?_)
      refine lv_goto (tgt := 4) hx hb dX0_pointInBuffer_28 (by decide) ?_
      exact ih_4 q (q + 1) ls ⟨(by omega), (by rw [show q + 1 - 1 = q by omega, hs]; first | rw [if_pos (by omega)] | rw [if_neg (by omega)]), (by omega)⟩ (show (32 - (q + 1)).toNat < (32 - q).toNat by omega) (lv_sub hl [2, 1, 0] rfl)
set_option maxHeartbeats 4000000 in
set_option maxRecDepth 100000 in
theorem c_X0_digitEnds (l : Launch) (g : GG) (u : ST) (n : Int) (hI : Inv u) (k0z : 0 ≤ n) (k1z : n ≤ 12) : Met l yX0_digitEnds wsX0_digitEnds (k2_rm 1 22) (va_Pc [.ref (gX g 0), .int (iI n)] (fun U => PY g u U U.heap)) (vp_Si (fun r => (r = iI 1 ∧ (0 < n ∧ 48 ≤ zbu u (n - 1) ∧ zbu u (n - 1) ≤ 57)) ∨ (r = iI 0 ∧ ¬ (0 < n ∧ 48 ≤ zbu u (n - 1) ∧ zbu u (n - 1) ≤ 57)))) 0 0 (fun _ => False) := by
  refine Met.ofW (cc := cX0_digitEnds) (maxL := 2) (ret := (some .boolean)) (by decide) rfl ?_
  intro pp ee s mm args below meth cc9 s₁ B hml hv
  obtain ⟨rfl, hPX⟩ := hv
  obtain ⟨hP, hK⟩ := id hPX
  have hx := B.exec
  have hb := B.bytes
  have hr := B.returns
  have hts := atoms_spec (ws := wsX0_digitEnds) B.pre
  have hown : s.vm.findClass RX0 = some mm.cls := findClass_of_methodNamed B.named
  have hlocks := B.notSynchronized
  have hin : ∀ w ∈ wsX00, w ∈ wsX0_digitEnds := fun w h => List.mem_cons_of_mem _ (List.mem_append_right _ h)
  have m9z : Cond.fieldLink RX0 9 "TraverseBoard" "buffer" "[I" ∈ wsX0_digitEnds := by decide +kernel
  have hi_bl := iv_bl hI
  have hi_pg := iv_pg hI
  have hi_se := iv_se hI
  have hi_dr := iv_dr hI
  have hl := lv_entry ([.ref (gX g 0), .int (iI n)]) (n := 2) (Nat.le_of_ble_eq_true rfl)
  rw [lg_entry_eq]
  generalize (lg_sl ([.ref (gX g 0), .int (iI n)]) ++ List.replicate (2 - (lg_sl ([.ref (gX g 0), .int (iI n)])).length) Slot.unset).toArray = ls at hl ⊢
  have hl : lv_has ls 2 [(0, .ref (gX g 0)), (1, .int (iI n))] := hl
  refine lv_iload_n hx hb dX0_digitEnds_0 rfl (lv_at hl 1 rfl) ?_
  refine z_if_le (tgt := 26) hx hb dX0_digitEnds_1 (by decide) (by omega) (fun c_1 => ?_) (fun c_1 => ?_)
  · refine z_iconst hx hb dX0_digitEnds_26 ?_
    exact zr_0 hx hb hr hlocks dX0_digitEnds_27 (by omega)
  · refine lv_aload_n hx hb dX0_digitEnds_4 rfl (lv_at hl 0 rfl) ?_
    refine gf_X0_9 hx hb hts hin m9z hown hK hP dX0_digitEnds_5 ?_
    refine lv_iload_n hx hb dX0_digitEnds_8 rfl (lv_at hl 1 rfl) ?_
    refine z_iconst hx hb dX0_digitEnds_9 ?_
    refine z_isub hx hb dX0_digitEnds_10 ?_
    refine al_X0_1 hx hb hK hP ⟨by omega, by omega⟩ dX0_digitEnds_11 ?_
    have hv_2 := iv_bu hI (n - 1)
    refine z_bipush hx hb dX0_digitEnds_12 (by decide +kernel) ?_
    refine z_bipush hx hb dX0_digitEnds_14 (by decide +kernel) ?_
    refine zS_z (As := [.int (iI (zbu u (n - 1))), .int (iI 48), .int (iI 57)]) (rest := []) ⟨hx, hb, hml, hown, hts⟩ (PT) PT_blind PT_mv  (c_X0_inRange l g (zbu u (n - 1)) 48 57 (by omega) (by omega) (by omega)) (va_cwS 3 hts gX0_digitEnds_X0_inRange rfl rfl rfl (by decide +kernel) ⟨Nat.le_of_ble_eq_true rfl, Nat.le_of_ble_eq_true rfl⟩) rfl hl.1 rfl (Nat.le_of_ble_eq_true rfl) dX0_digitEnds_16 ⟨Nat.zero_le _, Nat.zero_le _⟩ (fun c_3 => ?_) (fun c_3 => ?_)
    · refine z_if_eq (tgt := 26) hx hb dX0_digitEnds_19 (by decide) ⟨by decide, by decide⟩ (fun c_4 => (absurd c_4 (by decide))) (fun c_4 => ?_)
      refine z_iconst hx hb dX0_digitEnds_22 ?_
      refine lv_goto (tgt := 27) hx hb dX0_digitEnds_23 (by decide) ?_
      exact zr_1 hx hb hr hlocks dX0_digitEnds_27 (by omega)
    · refine z_if_eq (tgt := 26) hx hb dX0_digitEnds_19 (by decide) ⟨by decide, by decide⟩ (fun c_5 => ?_) (fun c_5 => (absurd c_5 (by decide)))
      refine z_iconst hx hb dX0_digitEnds_26 ?_
      exact zr_0 hx hb hr hlocks dX0_digitEnds_27 (by omega)
set_option maxHeartbeats 4000000 in
set_option maxRecDepth 100000 in
theorem c_X0_number (l : Launch) (g : GG) (u : ST) (a : Int) (b : Int) (hI : Inv u) (k0z : 0 ≤ a) (k1z : a ≤ b) (k2z : b ≤ 12) : Met l yX0_number wsX0_number (k2_rm 0 0) (va_Pc [.ref (gX g 0), .int (iI a), .int (iI b)] (fun U => PY g u U U.heap)) (vp_Si (fun r => r = iI (num (zbu u) a b))) 0 0 (fun _ => False) := by
  refine Met.ofW (cc := cX0_number) (maxL := 5) (ret := (some .int)) (by decide) rfl ?_
  intro pp ee s mm args below meth cc9 s₁ B hml hv
  obtain ⟨rfl, hPX⟩ := hv
  obtain ⟨hP, hK⟩ := id hPX
  have hx := B.exec
  have hb := B.bytes
  have hr := B.returns
  have hts := atoms_spec (ws := wsX0_number) B.pre
  have hown : s.vm.findClass RX0 = some mm.cls := findClass_of_methodNamed B.named
  have hlocks := B.notSynchronized
  have hin : ∀ w ∈ wsX00, w ∈ wsX0_number := fun w h => List.mem_cons_of_mem _ (List.mem_append_right _ h)
  have m9z : Cond.fieldLink RX0 9 "TraverseBoard" "buffer" "[I" ∈ wsX0_number := by decide +kernel
  have hi_bl := iv_bl hI
  have hi_pg := iv_pg hI
  have hi_se := iv_se hI
  have hi_dr := iv_dr hI
  have hl := lv_entry ([.ref (gX g 0), .int (iI a), .int (iI b)]) (n := 5) (Nat.le_of_ble_eq_true rfl)
  rw [lg_entry_eq]
  generalize (lg_sl ([.ref (gX g 0), .int (iI a), .int (iI b)]) ++ List.replicate (5 - (lg_sl ([.ref (gX g 0), .int (iI a), .int (iI b)])).length) Slot.unset).toArray = ls at hl ⊢
  have hl : lv_has ls 5 [(0, .ref (gX g 0)), (1, .int (iI a)), (2, .int (iI b))] := hl
  refine z_iconst hx hb dX0_number_0 ?_
  refine lv_istore_n (lv' := [(3, .int (iI 0)), (0, .ref (gX g 0)), (1, .int (iI a)), (2, .int (iI b))]) hx hb dX0_number_1 rfl hl (by decide) rfl (fun ls hl => ?_)
  refine lv_iload_n hx hb dX0_number_2 rfl (lv_at hl 2 rfl) ?_
  refine lv_istore (lv' := [(4, .int (iI a)), (3, .int (iI 0)), (0, .ref (gX g 0)), (1, .int (iI a)), (2, .int (iI b))]) hx hb dX0_number_3 hl (by decide) rfl (fun ls hl => ?_)
  refine z_loop2 (nL := 5) (fun x t => (a ≤ t) ∧ (t ≤ b) ∧ (x = num (zbu u) a t)) (fun x t => (b - t).toNat) (fun x t => [(0, .ref (gX g 0)), (1, .int (iI a)), (2, .int (iI b)), (3, .int (iI x)), (4, .int (iI t))]) (fun x t ls hinv hl ih_5 => ?_) 0 a ls ⟨(by omega), (by omega), (by exact (num_0 (Int.le_refl _)).symm)⟩ (lv_sub hl [2, 3, 4, 1, 0] rfl)
  have hinv : (a ≤ t) ∧ (t ≤ b) ∧ (x = num (zbu u) a t) := hinv
  obtain ⟨q1z, q2z, q3z⟩ := hinv
  have hl : lv_has ls 5 [(0, .ref (gX g 0)), (1, .int (iI a)), (2, .int (iI b)), (3, .int (iI x)), (4, .int (iI t))] := hl
  refine lv_iload hx hb dX0_number_5 (lv_at hl 4 rfl) ?_
  refine lv_iload_n hx hb dX0_number_7 rfl (lv_at hl 2 rfl) ?_
  refine z_icmp_ge (tgt := 33) hx hb dX0_number_8 (by decide) (by omega) (by omega) (fun c_1 => ?_) (fun c_1 => ?_)
  · refine lv_iload_n hx hb dX0_number_33 rfl (lv_at hl 3 rfl) ?_
    exact zr_i hx hb hr hlocks dX0_number_34 (by rw [q3z, show t = b by omega])
  · refine z_bipush hx hb dX0_number_11 (by decide +kernel) ?_
    refine lv_iload_n hx hb dX0_number_13 rfl (lv_at hl 3 rfl) ?_
    refine z_imul hx hb dX0_number_14 ?_
    refine lv_aload_n hx hb dX0_number_15 rfl (lv_at hl 0 rfl) ?_
    refine gf_X0_9 hx hb hts hin m9z hown hK hP dX0_number_16 ?_
    refine lv_iload hx hb dX0_number_19 (lv_at hl 4 rfl) ?_
    refine al_X0_1 hx hb hK hP ⟨by omega, by omega⟩ dX0_number_21 ?_
    have hv_2 := iv_bu hI t
    refine z_iadd hx hb dX0_number_22 ?_
    refine z_bipush hx hb dX0_number_23 (by decide +kernel) ?_
    refine z_isub hx hb dX0_number_25 ?_
    refine lv_istore_n (lv' := [(3, .int (iI (((10 * x) + (zbu u t)) - 48))), (0, .ref (gX g 0)), (1, .int (iI a)), (2, .int (iI b)), (4, .int (iI t))]) hx hb dX0_number_26 rfl hl (by decide) rfl (fun ls hl => ?_)
    refine z_iinc (k := 4) (lv' := [(4, .int (iI (t + 1))), (3, .int (iI (((10 * x) + (zbu u t)) - 48))), (0, .ref (gX g 0)), (1, .int (iI a)), (2, .int (iI b))]) hx hb dX0_number_27 hl rfl (by decide) rfl (fun ls hl => ?_)
    refine lv_goto (tgt := 5) hx hb dX0_number_30 (by decide) ?_
    exact ih_5 (((10 * x) + (zbu u t)) - 48) (t + 1) ls ⟨(by omega), (by omega), (by rw [num_s q1z, ← q3z])⟩ (show (b - (t + 1)).toNat < (b - t).toNat by omega) (lv_sub hl [2, 3, 4, 1, 0] rfl)
