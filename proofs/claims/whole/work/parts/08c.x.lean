/-! the class, by program (genx.py): X0_add X0_pegExists X0_replace X0_removeLast X0_lostCount X0_lose X0_setLeeway X0_setCurrent -/
set_option maxHeartbeats 4000000 in
set_option maxRecDepth 100000 in
theorem c_X0_add (l : Launch) (g : GG) (u : ST) (hg : gOk g) (p : Int) (q : Int) (hI : Inv u) (hb_p : B32 p) (hb_q : B32 q) : Met l yX0_add wsX0_add (k2_rm 2 46) (va_Pc [.ref (gX g 0), .int (iI p), .int (iI q)] (fun U => PY g u U U.heap)) (va_Ql (fun r (_ : Unit) => r = jI (adR u p q)) (fun _ t => (fun H9 => va_P (gD g) vwCl (wX g (adU u p q)) H9) t.heap) (aX g)) 0 0 (aX g) := by
  refine Met.ofW (cc := cX0_add) (maxL := 3) (ret := (some .long)) (by decide) rfl ?_
  intro pp ee s mm args below meth cc9 s₁ B hml hv
  obtain ⟨rfl, hPX⟩ := hv
  obtain ⟨hP, hK⟩ := id hPX
  have hx := B.exec
  have hb := B.bytes
  have hr := B.returns
  have hts := atoms_spec (ws := wsX0_add) B.pre
  have hown : s.vm.findClass RX0 = some mm.cls := findClass_of_methodNamed B.named
  have hlocks := B.notSynchronized
  have hin : ∀ w ∈ wsX00, w ∈ wsX0_add := fun w h => List.mem_cons_of_mem _ (List.mem_append_right _ h)
  have m39 : Cond.constantLong RX0 39 (-9000000000000000001) ∈ wsX0_add := by decide +kernel
  have m45 : Cond.constantLong RX0 45 (-9000000000000000004) ∈ wsX0_add := by decide +kernel
  have m71 : Cond.fieldLink RX0 71 "TraverseBoard" "pegs" "I" ∈ wsX0_add := by decide +kernel
  have hS : va_S (aX g) s.heap s.heap [] := va_S.rf
  have hi_bl := iv_bl hI
  have hi_pg := iv_pg hI
  have hi_se := iv_se hI
  have hi_dr := iv_dr hI
  have hl := lv_entry ([.ref (gX g 0), .int (iI p), .int (iI q)]) (n := 3) (Nat.le_of_ble_eq_true rfl)
  rw [lg_entry_eq]
  generalize (lg_sl ([.ref (gX g 0), .int (iI p), .int (iI q)]) ++ List.replicate (3 - (lg_sl ([.ref (gX g 0), .int (iI p), .int (iI q)])).length) Slot.unset).toArray = ls at hl ⊢
  have hl : lv_has ls 3 [(0, .ref (gX g 0)), (1, .int (iI p)), (2, .int (iI q))] := hl
  refine lv_iload_n hx hb dX0_add_0 rfl (lv_at hl 1 rfl) ?_
  refine zS_z (As := [.int (iI p)]) (rest := []) ⟨hx, hb, hml, hown, hts⟩ (PT) PT_blind PT_mv  (c_X0_isPoint l g p (by omega)) (va_cwS 1 hts gX0_add_X0_isPoint rfl rfl rfl (by decide +kernel) ⟨Nat.le_of_ble_eq_true rfl, Nat.le_of_ble_eq_true rfl⟩) rfl hl.1 rfl (Nat.le_of_ble_eq_true rfl) dX0_add_1 ⟨Nat.zero_le _, Nat.zero_le _⟩ (fun c_1 => ?_) (fun c_1 => ?_)
  · refine z_if_eq (tgt := 14) hx hb dX0_add_4 (by decide) ⟨by decide, by decide⟩ (fun c_2 => (absurd c_2 (by decide))) (fun c_2 => ?_)
    refine lv_iload_n hx hb dX0_add_7 rfl (lv_at hl 2 rfl) ?_
    refine zS_z (As := [.int (iI q)]) (rest := []) ⟨hx, hb, hml, hown, hts⟩ (PT) PT_blind PT_mv  (c_X0_isSpeed l g q (by omega)) (va_cwS 1 hts gX0_add_X0_isSpeed rfl rfl rfl (by decide +kernel) ⟨Nat.le_of_ble_eq_true rfl, Nat.le_of_ble_eq_true rfl⟩) rfl hl.1 rfl (Nat.le_of_ble_eq_true rfl) dX0_add_8 ⟨Nat.zero_le _, Nat.zero_le _⟩ (fun c_3 => ?_) (fun c_3 => ?_)
    · refine z_if_ne (tgt := 18) hx hb dX0_add_11 (by decide) ⟨by decide, by decide⟩ (fun c_4 => ?_) (fun c_4 => (absurd c_4 (by decide)))
      refine lv_aload_n hx hb dX0_add_18 rfl (lv_at hl 0 rfl) ?_
      refine gf_X0_71 (z := zpg u) hx hb hts hin m71 hown hK hP rfl dX0_add_19 ?_
      refine z_bipush hx hb dX0_add_22 (by decide +kernel) ?_
      refine z_icmp_lt (tgt := 31) hx hb dX0_add_24 (by decide) (by omega) ⟨by decide, by decide⟩ (fun c_5 => ?_) (fun c_5 => ?_)
      · refine lv_aload_n hx hb dX0_add_31 rfl (lv_at hl 0 rfl) ?_
        refine lv_iload_n hx hb dX0_add_32 rfl (lv_at hl 1 rfl) ?_
        refine lv_iload_n hx hb dX0_add_33 rfl (lv_at hl 2 rfl) ?_
        refine zVw_i (As := [.int (iI p), .int (iI q)]) (rest := []) ⟨hx, hb, hml, hown, hts⟩ (PY g u) (PY_blind g u) (PY_mv hP hK) (rcX hK hP) (c_X0_putBehindLast l g u hg p q hI (by omega) (by omega) (by omega)) (cwV 2 hts gX0_add_X0_putBehindLast rfl rfl rfl (by decide +kernel) ⟨Nat.le_of_ble_eq_true rfl, Nat.le_of_ble_eq_true rfl⟩) rfl hl.1 rfl (Nat.le_of_ble_eq_true rfl) dX0_add_34 ⟨Nat.zero_le _, Nat.zero_le _⟩ hS (fun _ h => h) (fun H locs hP hH1 hH2 hS => ?_)
        refine z_i2l hx hb (by omega) dX0_add_37 ?_
        exact zw_l (Post := (fun H9 => va_P (gD g) vwCl (wX g (adU u p q)) H9)) hx hb hr hlocks dX0_add_38 hS (by unfold adR eOR eFU; (repeat' split) <;> first | rfl | omega) (by unfold adU; split <;> first | exact hP | (exfalso; omega))
      · refine lv_ldc2 (v := jI (-9000000000000000004)) hx hb hown (hts _ m45) dX0_add_27 ?_
        exact zw_l (Post := (fun H9 => va_P (gD g) vwCl (wX g (adU u p q)) H9)) hx hb hr hlocks dX0_add_30 hS (by unfold adR eOR eFU; (repeat' split) <;> first | rfl | omega) (by unfold adU; split <;> first | exact hP | (exfalso; omega))
    · refine z_if_ne (tgt := 18) hx hb dX0_add_11 (by decide) ⟨by decide, by decide⟩ (fun c_6 => (absurd c_6 (by decide))) (fun c_6 => ?_)
      refine lv_ldc2 (v := jI (-9000000000000000001)) hx hb hown (hts _ m39) dX0_add_14 ?_
      exact zw_l (Post := (fun H9 => va_P (gD g) vwCl (wX g (adU u p q)) H9)) hx hb hr hlocks dX0_add_17 hS (by unfold adR eOR eFU; (repeat' split) <;> first | rfl | omega) (by unfold adU; split <;> first | exact hP | (exfalso; omega))
  · refine z_if_eq (tgt := 14) hx hb dX0_add_4 (by decide) ⟨by decide, by decide⟩ (fun c_7 => ?_) (fun c_7 => (absurd c_7 (by decide)))
    refine lv_ldc2 (v := jI (-9000000000000000001)) hx hb hown (hts _ m39) dX0_add_14 ?_
    exact zw_l (Post := (fun H9 => va_P (gD g) vwCl (wX g (adU u p q)) H9)) hx hb hr hlocks dX0_add_17 hS (by unfold adR eOR eFU; (repeat' split) <;> first | rfl | omega) (by unfold adU; split <;> first | exact hP | (exfalso; omega))
set_option maxHeartbeats 4000000 in
set_option maxRecDepth 100000 in
theorem c_X0_pegExists (l : Launch) (g : GG) (u : ST) (v : Int) (hI : Inv u) (hb_v : B32 v) : Met l yX0_pegExists wsX0_pegExists (k2_rm 1 22) (va_Pc [.ref (gX g 0), .int (iI v)] (fun U => PY g u U U.heap)) (vp_Si (fun r => (r = iI 1 ∧ (0 ≤ v ∧ v ≤ zpg u - 1)) ∨ (r = iI 0 ∧ ¬ (0 ≤ v ∧ v ≤ zpg u - 1)))) 0 0 (fun _ => False) := by
  refine Met.ofW (cc := cX0_pegExists) (maxL := 2) (ret := (some .boolean)) (by decide) rfl ?_
  intro pp ee s mm args below meth cc9 s₁ B hml hv
  obtain ⟨rfl, hPX⟩ := hv
  obtain ⟨hP, hK⟩ := id hPX
  have hx := B.exec
  have hb := B.bytes
  have hr := B.returns
  have hts := atoms_spec (ws := wsX0_pegExists) B.pre
  have hown : s.vm.findClass RX0 = some mm.cls := findClass_of_methodNamed B.named
  have hlocks := B.notSynchronized
  have hin : ∀ w ∈ wsX00, w ∈ wsX0_pegExists := fun w h => List.mem_cons_of_mem _ (List.mem_append_right _ h)
  have m71 : Cond.fieldLink RX0 71 "TraverseBoard" "pegs" "I" ∈ wsX0_pegExists := by decide +kernel
  have hi_bl := iv_bl hI
  have hi_pg := iv_pg hI
  have hi_se := iv_se hI
  have hi_dr := iv_dr hI
  have hl := lv_entry ([.ref (gX g 0), .int (iI v)]) (n := 2) (Nat.le_of_ble_eq_true rfl)
  rw [lg_entry_eq]
  generalize (lg_sl ([.ref (gX g 0), .int (iI v)]) ++ List.replicate (2 - (lg_sl ([.ref (gX g 0), .int (iI v)])).length) Slot.unset).toArray = ls at hl ⊢
  have hl : lv_has ls 2 [(0, .ref (gX g 0)), (1, .int (iI v))] := hl
  refine lv_iload_n hx hb dX0_pegExists_0 rfl (lv_at hl 1 rfl) ?_
  refine z_iconst hx hb dX0_pegExists_1 ?_
  refine lv_aload_n hx hb dX0_pegExists_2 rfl (lv_at hl 0 rfl) ?_
  refine gf_X0_71 (z := zpg u) hx hb hts hin m71 hown hK hP rfl dX0_pegExists_3 ?_
  refine z_iconst hx hb dX0_pegExists_6 ?_
  refine z_isub hx hb dX0_pegExists_7 ?_
  refine zS_z (As := [.int (iI v), .int (iI 0), .int (iI ((zpg u) - 1))]) (rest := []) ⟨hx, hb, hml, hown, hts⟩ (PT) PT_blind PT_mv  (c_X0_inRange l g v 0 ((zpg u) - 1) (by omega) (by omega) (by omega)) (va_cwS 3 hts gX0_pegExists_X0_inRange rfl rfl rfl (by decide +kernel) ⟨Nat.le_of_ble_eq_true rfl, Nat.le_of_ble_eq_true rfl⟩) rfl hl.1 rfl (Nat.le_of_ble_eq_true rfl) dX0_pegExists_8 ⟨Nat.zero_le _, Nat.zero_le _⟩ (fun c_1 => ?_) (fun c_1 => ?_)
  · exact zr_1 hx hb hr hlocks dX0_pegExists_11 (by omega)
  · exact zr_0 hx hb hr hlocks dX0_pegExists_11 (by omega)
set_option maxHeartbeats 4000000 in
set_option maxRecDepth 100000 in
theorem c_X0_replace (l : Launch) (g : GG) (u : ST) (hg : gOk g) (k : Int) (p : Int) (q : Int) (hI : Inv u) (hb_k : B32 k) (hb_p : B32 p) (hb_q : B32 q) : Met l yX0_replace wsX0_replace (k2_rm 2 43) (va_Pc [.ref (gX g 0), .int (iI k), .int (iI p), .int (iI q)] (fun U => PY g u U U.heap)) (va_Ql (fun r (_ : Unit) => r = jI (reR u k p q)) (fun _ t => (fun H9 => va_P (gD g) vwCl (wX g (reU u k p q)) H9) t.heap) (aX g)) 0 0 (aX g) := by
  refine Met.ofW (cc := cX0_replace) (maxL := 5) (ret := (some .long)) (by decide) rfl ?_
  intro pp ee s mm args below meth cc9 s₁ B hml hv
  obtain ⟨rfl, hPX⟩ := hv
  obtain ⟨hP, hK⟩ := id hPX
  have hx := B.exec
  have hb := B.bytes
  have hr := B.returns
  have hts := atoms_spec (ws := wsX0_replace) B.pre
  have hown : s.vm.findClass RX0 = some mm.cls := findClass_of_methodNamed B.named
  have hlocks := B.notSynchronized
  have hin : ∀ w ∈ wsX00, w ∈ wsX0_replace := fun w h => List.mem_cons_of_mem _ (List.mem_append_right _ h)
  have m102 : Cond.constantLong RX0 102 (-9000000000000000002) ∈ wsX0_replace := by decide +kernel
  have m22 : Cond.fieldLink RX0 22 "TraverseBoard" "lost" "[Z" ∈ wsX0_replace := by decide +kernel
  have m39 : Cond.constantLong RX0 39 (-9000000000000000001) ∈ wsX0_replace := by decide +kernel
  have hS : va_S (aX g) s.heap s.heap [] := va_S.rf
  have hi_bl := iv_bl hI
  have hi_pg := iv_pg hI
  have hi_se := iv_se hI
  have hi_dr := iv_dr hI
  have hl := lv_entry ([.ref (gX g 0), .int (iI k), .int (iI p), .int (iI q)]) (n := 5) (Nat.le_of_ble_eq_true rfl)
  rw [lg_entry_eq]
  generalize (lg_sl ([.ref (gX g 0), .int (iI k), .int (iI p), .int (iI q)]) ++ List.replicate (5 - (lg_sl ([.ref (gX g 0), .int (iI k), .int (iI p), .int (iI q)])).length) Slot.unset).toArray = ls at hl ⊢
  have hl : lv_has ls 5 [(0, .ref (gX g 0)), (1, .int (iI k)), (2, .int (iI p)), (3, .int (iI q))] := hl
  refine lv_aload_n hx hb dX0_replace_0 rfl (lv_at hl 0 rfl) ?_
  refine lv_iload_n hx hb dX0_replace_1 rfl (lv_at hl 1 rfl) ?_
  refine zV_z (As := [.int (iI k)]) (rest := []) ⟨hx, hb, hml, hown, hts⟩ (PY g u) (PY_blind g u) (PY_mv hP hK) (rcX hK hP) (c_X0_pegExists l g u k hI (by omega)) (cwV 1 hts gX0_replace_X0_pegExists rfl rfl rfl (by decide +kernel) ⟨Nat.le_of_ble_eq_true rfl, Nat.le_of_ble_eq_true rfl⟩) rfl hl.1 rfl (Nat.le_of_ble_eq_true rfl) dX0_replace_2 ⟨Nat.zero_le _, Nat.zero_le _⟩ (fun c_1 => ?_) (fun c_1 => ?_)
  · refine z_if_ne (tgt := 12) hx hb dX0_replace_5 (by decide) ⟨by decide, by decide⟩ (fun c_2 => ?_) (fun c_2 => (absurd c_2 (by decide)))
    refine lv_iload_n hx hb dX0_replace_12 rfl (lv_at hl 2 rfl) ?_
    refine zS_z (As := [.int (iI p)]) (rest := []) ⟨hx, hb, hml, hown, hts⟩ (PT) PT_blind PT_mv  (c_X0_isPoint l g p (by omega)) (va_cwS 1 hts gX0_replace_X0_isPoint rfl rfl rfl (by decide +kernel) ⟨Nat.le_of_ble_eq_true rfl, Nat.le_of_ble_eq_true rfl⟩) rfl hl.1 rfl (Nat.le_of_ble_eq_true rfl) dX0_replace_13 ⟨Nat.zero_le _, Nat.zero_le _⟩ (fun c_3 => ?_) (fun c_3 => ?_)
    · refine z_if_eq (tgt := 26) hx hb dX0_replace_16 (by decide) ⟨by decide, by decide⟩ (fun c_4 => (absurd c_4 (by decide))) (fun c_4 => ?_)
      refine lv_iload_n hx hb dX0_replace_19 rfl (lv_at hl 3 rfl) ?_
      refine zS_z (As := [.int (iI q)]) (rest := []) ⟨hx, hb, hml, hown, hts⟩ (PT) PT_blind PT_mv  (c_X0_isSpeed l g q (by omega)) (va_cwS 1 hts gX0_replace_X0_isSpeed rfl rfl rfl (by decide +kernel) ⟨Nat.le_of_ble_eq_true rfl, Nat.le_of_ble_eq_true rfl⟩) rfl hl.1 rfl (Nat.le_of_ble_eq_true rfl) dX0_replace_20 ⟨Nat.zero_le _, Nat.zero_le _⟩ (fun c_5 => ?_) (fun c_5 => ?_)
      · refine z_if_ne (tgt := 30) hx hb dX0_replace_23 (by decide) ⟨by decide, by decide⟩ (fun c_6 => ?_) (fun c_6 => (absurd c_6 (by decide)))
        refine lv_aload_n hx hb dX0_replace_30 rfl (lv_at hl 0 rfl) ?_
        refine gf_X0_22 hx hb hts hin m22 hown hK hP dX0_replace_31 ?_
        refine lv_iload_n hx hb dX0_replace_34 rfl (lv_at hl 1 rfl) ?_
        refine al_X0_5 hx hb hK hP ⟨by omega, by omega⟩ dX0_replace_35 ?_
        have hv_7 := iv_lo hI k
        refine lv_istore (lv' := [(4, .int (iI (zlo u k))), (0, .ref (gX g 0)), (1, .int (iI k)), (2, .int (iI p)), (3, .int (iI q))]) hx hb dX0_replace_36 hl (by decide) rfl (fun ls hl => ?_)
        refine lv_aload_n hx hb dX0_replace_38 rfl (lv_at hl 1 rfl) ?_
        refine lv_iload_n hx hb dX0_replace_39 rfl (lv_at hl 2 rfl) ?_
        refine lv_iload_n hx hb dX0_replace_40 rfl (lv_at hl 3 rfl) ?_
        refine lv_iload_n hx hb dX0_replace_41 rfl (lv_at hl 4 rfl) ?_
        refine zVw_v (As := [.int (iI k), .int (iI p), .int (iI q)]) (rest := []) ⟨hx, hb, hml, hown, hts⟩ (PY g u) (PY_blind g u) (PY_mv hP hK) (rcX hK hP) (c_X0_put l g u hg k p q (by omega)) (cwV 3 hts gX0_replace_X0_put rfl rfl rfl (by decide +kernel) ⟨Nat.le_of_ble_eq_true rfl, Nat.le_of_ble_eq_true rfl⟩) rfl hl.1 rfl (Nat.le_of_ble_eq_true rfl) dX0_replace_42 ⟨Nat.zero_le _, Nat.zero_le _⟩ hS (fun _ h => h) (fun H locs hP hH1 hH2 hS => ?_)
        refine lv_iload hx hb dX0_replace_45 (lv_at hl 0 rfl) ?_
        refine z_if_eq (tgt := 54) hx hb dX0_replace_47 (by decide) (by omega) (fun c_8 => ?_) (fun c_8 => ?_)
        · refine z_lconst (z := 0) hx hb dX0_replace_54 rfl ?_
          exact zw_l (Post := (fun H9 => va_P (gD g) vwCl (wX g (reU u k p q)) H9)) hx hb hr hlocks dX0_replace_55 hS (by unfold reR eOR eNP; (repeat' split) <;> first | rfl | omega) (by unfold reU; split <;> first | exact hP | (exfalso; omega))
        · refine z_lconst (z := 1) hx hb dX0_replace_50 rfl ?_
          refine lv_goto (tgt := 55) hx hb dX0_replace_51 (by decide) ?_
          exact zw_l (Post := (fun H9 => va_P (gD g) vwCl (wX g (reU u k p q)) H9)) hx hb hr hlocks dX0_replace_55 hS (by unfold reR eOR eNP; (repeat' split) <;> first | rfl | omega) (by unfold reU; split <;> first | exact hP | (exfalso; omega))
      · refine z_if_ne (tgt := 30) hx hb dX0_replace_23 (by decide) ⟨by decide, by decide⟩ (fun c_9 => (absurd c_9 (by decide))) (fun c_9 => ?_)
        refine lv_ldc2 (v := jI (-9000000000000000001)) hx hb hown (hts _ m39) dX0_replace_26 ?_
        exact zw_l (Post := (fun H9 => va_P (gD g) vwCl (wX g (reU u k p q)) H9)) hx hb hr hlocks dX0_replace_29 hS (by unfold reR eOR eNP; (repeat' split) <;> first | rfl | omega) (by unfold reU; split <;> first | exact hP | (exfalso; omega))
    · refine z_if_eq (tgt := 26) hx hb dX0_replace_16 (by decide) ⟨by decide, by decide⟩ (fun c_10 => ?_) (fun c_10 => (absurd c_10 (by decide)))
      refine lv_ldc2 (v := jI (-9000000000000000001)) hx hb hown (hts _ m39) dX0_replace_26 ?_
      exact zw_l (Post := (fun H9 => va_P (gD g) vwCl (wX g (reU u k p q)) H9)) hx hb hr hlocks dX0_replace_29 hS (by unfold reR eOR eNP; (repeat' split) <;> first | rfl | omega) (by unfold reU; split <;> first | exact hP | (exfalso; omega))
  · refine z_if_ne (tgt := 12) hx hb dX0_replace_5 (by decide) ⟨by decide, by decide⟩ (fun c_11 => (absurd c_11 (by decide))) (fun c_11 => ?_)
    refine lv_ldc2 (v := jI (-9000000000000000002)) hx hb hown (hts _ m102) dX0_replace_8 ?_
    exact zw_l (Post := (fun H9 => va_P (gD g) vwCl (wX g (reU u k p q)) H9)) hx hb hr hlocks dX0_replace_11 hS (by unfold reR eOR eNP; (repeat' split) <;> first | rfl | omega) (by unfold reU; split <;> first | exact hP | (exfalso; omega))
set_option maxHeartbeats 4000000 in
set_option maxRecDepth 100000 in
theorem c_X0_removeLast (l : Launch) (g : GG) (u : ST) (hg : gOk g) (hI : Inv u) : Met l yX0_removeLast wsX0_removeLast (k2_rm 0 0) (va_Pc [.ref (gX g 0)] (fun U => PY g u U U.heap)) (va_Ql (fun r (_ : Unit) => r = jI (rlR u)) (fun _ t => (fun H9 => va_P (gD g) vwCl (wX g (rlU u)) H9) t.heap) (aX g)) 0 0 (aX g) := by
  refine Met.ofW (cc := cX0_removeLast) (maxL := 1) (ret := (some .long)) (by decide) rfl ?_
  intro pp ee s mm args below meth cc9 s₁ B hml hv
  obtain ⟨rfl, hPX⟩ := hv
  obtain ⟨hP, hK⟩ := id hPX
  have hx := B.exec
  have hb := B.bytes
  have hr := B.returns
  have hts := atoms_spec (ws := wsX0_removeLast) B.pre
  have hown : s.vm.findClass RX0 = some mm.cls := findClass_of_methodNamed B.named
  have hlocks := B.notSynchronized
  have hin : ∀ w ∈ wsX00, w ∈ wsX0_removeLast := fun w h => List.mem_cons_of_mem _ (List.mem_append_right _ h)
  have m108 : Cond.constantLong RX0 108 (-9000000000000000007) ∈ wsX0_removeLast := by decide +kernel
  have m26 : Cond.fieldLink RX0 26 "TraverseBoard" "fixed" "[Z" ∈ wsX0_removeLast := by decide +kernel
  have m71 : Cond.fieldLink RX0 71 "TraverseBoard" "pegs" "I" ∈ wsX0_removeLast := by decide +kernel
  have hS : va_S (aX g) s.heap s.heap [] := va_S.rf
  have hi_bl := iv_bl hI
  have hi_pg := iv_pg hI
  have hi_se := iv_se hI
  have hi_dr := iv_dr hI
  have hl := lv_entry ([.ref (gX g 0)]) (n := 1) (Nat.le_of_ble_eq_true rfl)
  rw [lg_entry_eq]
  generalize (lg_sl ([.ref (gX g 0)]) ++ List.replicate (1 - (lg_sl ([.ref (gX g 0)])).length) Slot.unset).toArray = ls at hl ⊢
  have hl : lv_has ls 1 [(0, .ref (gX g 0))] := hl
  refine lv_aload_n hx hb dX0_removeLast_0 rfl (lv_at hl 0 rfl) ?_
  refine gf_X0_71 (z := zpg u) hx hb hts hin m71 hown hK hP rfl dX0_removeLast_1 ?_
  refine z_if_gt (tgt := 11) hx hb dX0_removeLast_4 (by decide) (by omega) (fun c_1 => ?_) (fun c_1 => ?_)
  · refine lv_aload_n hx hb dX0_removeLast_11 rfl (lv_at hl 0 rfl) ?_
    refine gf_X0_26 hx hb hts hin m26 hown hK hP dX0_removeLast_12 ?_
    refine lv_aload_n hx hb dX0_removeLast_15 rfl (lv_at hl 0 rfl) ?_
    refine gf_X0_71 (z := zpg u) hx hb hts hin m71 hown hK hP rfl dX0_removeLast_16 ?_
    refine z_iconst hx hb dX0_removeLast_19 ?_
    refine as_X0_6 hx hb hK hP (wX_D hg _) hS ⟨by omega, by omega⟩ (by decide +kernel) dX0_removeLast_20 (fun H locs hP hS => ?_)
    refine lv_aload_n hx hb dX0_removeLast_21 rfl (lv_at hl 0 rfl) ?_
    refine lv_dup hx hb dX0_removeLast_22 rfl ?_
    refine gf_X0_71 (z := zpg u) hx hb hts hin m71 hown hK hP rfl dX0_removeLast_23 ?_
    refine z_iconst hx hb dX0_removeLast_26 ?_
    refine z_isub hx hb dX0_removeLast_27 ?_
    refine pf_X0_71 hx hb hts hin m71 hown hK hP (wX_D hg _) hS dX0_removeLast_28 (fun H locs hP hS => ?_)
    refine lv_aload_n hx hb dX0_removeLast_31 rfl (lv_at hl 0 rfl) ?_
    refine gf_X0_71 (z := (zpg u) - 1) hx hb hts hin m71 hown hK hP rfl dX0_removeLast_32 ?_
    refine z_i2l hx hb (by omega) dX0_removeLast_35 ?_
    exact zw_l (Post := (fun H9 => va_P (gD g) vwCl (wX g (rlU u)) H9)) hx hb hr hlocks dX0_removeLast_36 hS (by unfold rlR eNO; (repeat' split) <;> first | rfl | omega) (by unfold rlU; split <;> first | exact hP | (exfalso; omega))
  · refine lv_ldc2 (v := jI (-9000000000000000007)) hx hb hown (hts _ m108) dX0_removeLast_7 ?_
    exact zw_l (Post := (fun H9 => va_P (gD g) vwCl (wX g (rlU u)) H9)) hx hb hr hlocks dX0_removeLast_10 hS (by unfold rlR eNO; (repeat' split) <;> first | rfl | omega) (by unfold rlU; split <;> first | exact hP | (exfalso; omega))
set_option maxHeartbeats 4000000 in
set_option maxRecDepth 100000 in
theorem c_X0_lostCount (l : Launch) (g : GG) (u : ST) (a : Int) (b : Int) (hI : Inv u) (k0z : 0 ≤ a) (k1z : a ≤ b) (k2z : b ≤ 48) : Met l yX0_lostCount wsX0_lostCount (k2_rm 0 0) (va_Pc [.ref (gX g 0), .int (iI a), .int (iI b)] (fun U => PY g u U U.heap)) (vp_Si (fun r => r = iI (sz (zlo u) a b))) 0 0 (fun _ => False) := by
  refine Met.ofW (cc := cX0_lostCount) (maxL := 5) (ret := (some .int)) (by decide) rfl ?_
  intro pp ee s mm args below meth cc9 s₁ B hml hv
  obtain ⟨rfl, hPX⟩ := hv
  obtain ⟨hP, hK⟩ := id hPX
  have hx := B.exec
  have hb := B.bytes
  have hr := B.returns
  have hts := atoms_spec (ws := wsX0_lostCount) B.pre
  have hown : s.vm.findClass RX0 = some mm.cls := findClass_of_methodNamed B.named
  have hlocks := B.notSynchronized
  have hin : ∀ w ∈ wsX00, w ∈ wsX0_lostCount := fun w h => List.mem_cons_of_mem _ (List.mem_append_right _ h)
  have m22 : Cond.fieldLink RX0 22 "TraverseBoard" "lost" "[Z" ∈ wsX0_lostCount := by decide +kernel
  have hi_bl := iv_bl hI
  have hi_pg := iv_pg hI
  have hi_se := iv_se hI
  have hi_dr := iv_dr hI
  have hl := lv_entry ([.ref (gX g 0), .int (iI a), .int (iI b)]) (n := 5) (Nat.le_of_ble_eq_true rfl)
  rw [lg_entry_eq]
  generalize (lg_sl ([.ref (gX g 0), .int (iI a), .int (iI b)]) ++ List.replicate (5 - (lg_sl ([.ref (gX g 0), .int (iI a), .int (iI b)])).length) Slot.unset).toArray = ls at hl ⊢
  have hl : lv_has ls 5 [(0, .ref (gX g 0)), (1, .int (iI a)), (2, .int (iI b))] := hl
  refine z_iconst hx hb dX0_lostCount_0 ?_
  refine lv_istore_n (lv' := [(3, .int (iI 0)), (0, .ref (gX g 0)), (1, .int (iI a)), (2, .int (iI b))]) hx hb dX0_lostCount_1 rfl hl (by decide) rfl (fun ls hl => ?_)
  refine lv_iload_n hx hb dX0_lostCount_2 rfl (lv_at hl 2 rfl) ?_
  refine lv_istore (lv' := [(4, .int (iI a)), (3, .int (iI 0)), (0, .ref (gX g 0)), (1, .int (iI a)), (2, .int (iI b))]) hx hb dX0_lostCount_3 hl (by decide) rfl (fun ls hl => ?_)
  refine z_loop2 (nL := 5) (fun x t => (a ≤ t ∧ t ≤ b) ∧ (x = sz (zlo u) a t)) (fun x t => (b - t).toNat) (fun x t => [(0, .ref (gX g 0)), (1, .int (iI a)), (2, .int (iI b)), (3, .int (iI x)), (4, .int (iI t))]) (fun x t ls hinv hl ih_5 => ?_) 0 a ls ⟨(by omega), (by exact (sz_0 (Int.le_refl _)).symm)⟩ (lv_sub hl [2, 3, 4, 1, 0] rfl)
  have hinv : (a ≤ t ∧ t ≤ b) ∧ (x = sz (zlo u) a t) := hinv
  obtain ⟨q1z, q3z⟩ := hinv
  have hl : lv_has ls 5 [(0, .ref (gX g 0)), (1, .int (iI a)), (2, .int (iI b)), (3, .int (iI x)), (4, .int (iI t))] := hl
  have hl9 := iv_lo hI t
  refine lv_iload hx hb dX0_lostCount_5 (lv_at hl 4 rfl) ?_
  refine lv_iload_n hx hb dX0_lostCount_7 rfl (lv_at hl 2 rfl) ?_
  refine z_icmp_ge (tgt := 30) hx hb dX0_lostCount_8 (by decide) (by omega) (by omega) (fun c_1 => ?_) (fun c_1 => ?_)
  · refine lv_iload_n hx hb dX0_lostCount_30 rfl (lv_at hl 3 rfl) ?_
    exact zr_i hx hb hr hlocks dX0_lostCount_31 (by rw [q3z, show t = b by omega])
  · refine lv_aload_n hx hb dX0_lostCount_11 rfl (lv_at hl 0 rfl) ?_
    refine gf_X0_22 hx hb hts hin m22 hown hK hP dX0_lostCount_12 ?_
    refine lv_iload hx hb dX0_lostCount_15 (lv_at hl 4 rfl) ?_
    refine al_X0_5 hx hb hK hP ⟨by omega, by omega⟩ dX0_lostCount_17 ?_
    have hv_2 := iv_lo hI t
    refine z_if_eq (tgt := 24) hx hb dX0_lostCount_18 (by decide) (by omega) (fun c_3 => ?_) (fun c_3 => ?_)
    · refine z_iinc (k := 4) (lv' := [(4, .int (iI (t + 1))), (0, .ref (gX g 0)), (1, .int (iI a)), (2, .int (iI b)), (3, .int (iI x))]) hx hb dX0_lostCount_24 hl rfl (by decide) rfl (fun ls hl => ?_)
      refine lv_goto (tgt := 5) hx hb dX0_lostCount_27 (by decide) ?_
      exact ih_5 x (t + 1) ls ⟨(by omega), (by rw [sz_s q1z.1]; omega)⟩ (show (b - (t + 1)).toNat < (b - t).toNat by omega) (lv_sub hl [1, 2, 3, 4, 0] rfl)
    · refine z_iinc (k := 3) (lv' := [(3, .int (iI (x + 1))), (0, .ref (gX g 0)), (1, .int (iI a)), (2, .int (iI b)), (4, .int (iI t))]) hx hb dX0_lostCount_21 hl rfl (by decide) rfl (fun ls hl => ?_)
      refine z_iinc (k := 4) (lv' := [(4, .int (iI (t + 1))), (3, .int (iI (x + 1))), (0, .ref (gX g 0)), (1, .int (iI a)), (2, .int (iI b))]) hx hb dX0_lostCount_24 hl rfl (by decide) rfl (fun ls hl => ?_)
      refine lv_goto (tgt := 5) hx hb dX0_lostCount_27 (by decide) ?_
      exact ih_5 (x + 1) (t + 1) ls ⟨(by omega), (by rw [sz_s q1z.1]; omega)⟩ (show (b - (t + 1)).toNat < (b - t).toNat by omega) (lv_sub hl [2, 3, 4, 1, 0] rfl)
set_option maxHeartbeats 4000000 in
set_option maxRecDepth 100000 in
theorem c_X0_lose (l : Launch) (g : GG) (u : ST) (hg : gOk g) (k : Int) (hI : Inv u) (hb_k : B32 k) : Met l yX0_lose wsX0_lose (k2_rm 2 43) (va_Pc [.ref (gX g 0), .int (iI k)] (fun U => PY g u U U.heap)) (va_Ql (fun r (_ : Unit) => r = jI (loR u k)) (fun _ t => (fun H9 => va_P (gD g) vwCl (wX g (loU u k)) H9) t.heap) (aX g)) 0 0 (aX g) := by
  refine Met.ofW (cc := cX0_lose) (maxL := 2) (ret := (some .long)) (by decide) rfl ?_
  intro pp ee s mm args below meth cc9 s₁ B hml hv
  obtain ⟨rfl, hPX⟩ := hv
  obtain ⟨hP, hK⟩ := id hPX
  have hx := B.exec
  have hb := B.bytes
  have hr := B.returns
  have hts := atoms_spec (ws := wsX0_lose) B.pre
  have hown : s.vm.findClass RX0 = some mm.cls := findClass_of_methodNamed B.named
  have hlocks := B.notSynchronized
  have hin : ∀ w ∈ wsX00, w ∈ wsX0_lose := fun w h => List.mem_cons_of_mem _ (List.mem_append_right _ h)
  have m102 : Cond.constantLong RX0 102 (-9000000000000000002) ∈ wsX0_lose := by decide +kernel
  have m110 : Cond.constantLong RX0 110 (-9000000000000000006) ∈ wsX0_lose := by decide +kernel
  have m22 : Cond.fieldLink RX0 22 "TraverseBoard" "lost" "[Z" ∈ wsX0_lose := by decide +kernel
  have m71 : Cond.fieldLink RX0 71 "TraverseBoard" "pegs" "I" ∈ wsX0_lose := by decide +kernel
  have hS : va_S (aX g) s.heap s.heap [] := va_S.rf
  have hi_bl := iv_bl hI
  have hi_pg := iv_pg hI
  have hi_se := iv_se hI
  have hi_dr := iv_dr hI
  have hl := lv_entry ([.ref (gX g 0), .int (iI k)]) (n := 2) (Nat.le_of_ble_eq_true rfl)
  rw [lg_entry_eq]
  generalize (lg_sl ([.ref (gX g 0), .int (iI k)]) ++ List.replicate (2 - (lg_sl ([.ref (gX g 0), .int (iI k)])).length) Slot.unset).toArray = ls at hl ⊢
  have hl : lv_has ls 2 [(0, .ref (gX g 0)), (1, .int (iI k))] := hl
  refine lv_aload_n hx hb dX0_lose_0 rfl (lv_at hl 0 rfl) ?_
  refine lv_iload_n hx hb dX0_lose_1 rfl (lv_at hl 1 rfl) ?_
  refine zV_z (As := [.int (iI k)]) (rest := []) ⟨hx, hb, hml, hown, hts⟩ (PY g u) (PY_blind g u) (PY_mv hP hK) (rcX hK hP) (c_X0_pegExists l g u k hI (by omega)) (cwV 1 hts gX0_lose_X0_pegExists rfl rfl rfl (by decide +kernel) ⟨Nat.le_of_ble_eq_true rfl, Nat.le_of_ble_eq_true rfl⟩) rfl hl.1 rfl (Nat.le_of_ble_eq_true rfl) dX0_lose_2 ⟨Nat.zero_le _, Nat.zero_le _⟩ (fun c_1 => ?_) (fun c_1 => ?_)
  · refine z_if_ne (tgt := 12) hx hb dX0_lose_5 (by decide) ⟨by decide, by decide⟩ (fun c_2 => ?_) (fun c_2 => (absurd c_2 (by decide)))
    refine lv_aload_n hx hb dX0_lose_12 rfl (lv_at hl 0 rfl) ?_
    refine gf_X0_22 hx hb hts hin m22 hown hK hP dX0_lose_13 ?_
    refine lv_iload_n hx hb dX0_lose_16 rfl (lv_at hl 1 rfl) ?_
    refine al_X0_5 hx hb hK hP ⟨by omega, by omega⟩ dX0_lose_17 ?_
    have hv_3 := iv_lo hI k
    refine z_if_eq (tgt := 25) hx hb dX0_lose_18 (by decide) (by omega) (fun c_4 => ?_) (fun c_4 => ?_)
    · refine lv_aload_n hx hb dX0_lose_25 rfl (lv_at hl 0 rfl) ?_
      refine gf_X0_22 hx hb hts hin m22 hown hK hP dX0_lose_26 ?_
      refine lv_iload_n hx hb dX0_lose_29 rfl (lv_at hl 1 rfl) ?_
      refine z_iconst hx hb dX0_lose_30 ?_
      refine as_X0_5 hx hb hK hP (wX_D hg _) hS ⟨by omega, by omega⟩ (by decide +kernel) dX0_lose_31 (fun H locs hP hS => ?_)
      refine lv_aload_n hx hb dX0_lose_32 rfl (lv_at hl 0 rfl) ?_
      refine z_iconst hx hb dX0_lose_33 ?_
      refine lv_aload_n hx hb dX0_lose_34 rfl (lv_at hl 0 rfl) ?_
      refine gf_X0_71 (z := zpg u) hx hb hts hin m71 hown hK hP rfl dX0_lose_35 ?_
      refine zV_i (As := [.int (iI 0), .int (iI (zpg u))]) (rest := []) ⟨hx, hb, hml, hown, hts⟩ (PY g (ulo u (zup (zlo u) k 1))) (PY_blind g (ulo u (zup (zlo u) k 1))) (PY_mv hP hK) (rcX hK hP) (c_X0_lostCount l g ((ulo u (zup (zlo u) k 1))) 0 (zpg u) (inv_lo hI k 1 (by decide)) (by omega) (by show 0 ≤ zpg u; omega) (by show zpg u ≤ 48; omega)) (cwV 2 hts gX0_lose_X0_lostCount rfl rfl rfl (by decide +kernel) ⟨Nat.le_of_ble_eq_true rfl, Nat.le_of_ble_eq_true rfl⟩) rfl hl.1 rfl (Nat.le_of_ble_eq_true rfl) dX0_lose_38 ⟨Nat.zero_le _, Nat.zero_le _⟩ ?_
      refine z_i2l hx hb (lo_b hI k) dX0_lose_41 ?_
      exact zw_l (Post := (fun H9 => va_P (gD g) vwCl (wX g (loU u k)) H9)) hx hb hr hlocks dX0_lose_42 hS (by unfold loR eNP eWS; (repeat' split) <;> first | rfl | omega) (by unfold loU; split <;> first | exact hP | (exfalso; omega))
    · refine lv_ldc2 (v := jI (-9000000000000000006)) hx hb hown (hts _ m110) dX0_lose_21 ?_
      exact zw_l (Post := (fun H9 => va_P (gD g) vwCl (wX g (loU u k)) H9)) hx hb hr hlocks dX0_lose_24 hS (by unfold loR eNP eWS; (repeat' split) <;> first | rfl | omega) (by unfold loU; split <;> first | exact hP | (exfalso; omega))
  · refine z_if_ne (tgt := 12) hx hb dX0_lose_5 (by decide) ⟨by decide, by decide⟩ (fun c_5 => (absurd c_5 (by decide))) (fun c_5 => ?_)
    refine lv_ldc2 (v := jI (-9000000000000000002)) hx hb hown (hts _ m102) dX0_lose_8 ?_
    exact zw_l (Post := (fun H9 => va_P (gD g) vwCl (wX g (loU u k)) H9)) hx hb hr hlocks dX0_lose_11 hS (by unfold loR eNP eWS; (repeat' split) <;> first | rfl | omega) (by unfold loU; split <;> first | exact hP | (exfalso; omega))
set_option maxHeartbeats 4000000 in
set_option maxRecDepth 100000 in
theorem c_X0_setLeeway (l : Launch) (g : GG) (u : ST) (hg : gOk g) (k : Int) (w : Int) (hI : Inv u) (hb_k : B32 k) (hb_w : B32 w) : Met l yX0_setLeeway wsX0_setLeeway (k2_rm 2 43) (va_Pc [.ref (gX g 0), .int (iI k), .int (iI w)] (fun U => PY g u U U.heap)) (va_Ql (fun r (_ : Unit) => r = jI (slR u k w)) (fun _ t => (fun H9 => va_P (gD g) vwCl (wX g (slU u k w)) H9) t.heap) (aX g)) 0 0 (aX g) := by
  refine Met.ofW (cc := cX0_setLeeway) (maxL := 4) (ret := (some .long)) (by decide) rfl ?_
  intro pp ee s mm args below meth cc9 s₁ B hml hv
  obtain ⟨rfl, hPX⟩ := hv
  obtain ⟨hP, hK⟩ := id hPX
  have hx := B.exec
  have hb := B.bytes
  have hr := B.returns
  have hts := atoms_spec (ws := wsX0_setLeeway) B.pre
  have hown : s.vm.findClass RX0 = some mm.cls := findClass_of_methodNamed B.named
  have hlocks := B.notSynchronized
  have hin : ∀ w ∈ wsX00, w ∈ wsX0_setLeeway := fun w h => List.mem_cons_of_mem _ (List.mem_append_right _ h)
  have m102 : Cond.constantLong RX0 102 (-9000000000000000002) ∈ wsX0_setLeeway := by decide +kernel
  have m19 : Cond.fieldLink RX0 19 "TraverseBoard" "leeways" "[I" ∈ wsX0_setLeeway := by decide +kernel
  have m39 : Cond.constantLong RX0 39 (-9000000000000000001) ∈ wsX0_setLeeway := by decide +kernel
  have hS : va_S (aX g) s.heap s.heap [] := va_S.rf
  have hi_bl := iv_bl hI
  have hi_pg := iv_pg hI
  have hi_se := iv_se hI
  have hi_dr := iv_dr hI
  have hl := lv_entry ([.ref (gX g 0), .int (iI k), .int (iI w)]) (n := 4) (Nat.le_of_ble_eq_true rfl)
  rw [lg_entry_eq]
  generalize (lg_sl ([.ref (gX g 0), .int (iI k), .int (iI w)]) ++ List.replicate (4 - (lg_sl ([.ref (gX g 0), .int (iI k), .int (iI w)])).length) Slot.unset).toArray = ls at hl ⊢
  have hl : lv_has ls 4 [(0, .ref (gX g 0)), (1, .int (iI k)), (2, .int (iI w))] := hl
  refine lv_aload_n hx hb dX0_setLeeway_0 rfl (lv_at hl 0 rfl) ?_
  refine lv_iload_n hx hb dX0_setLeeway_1 rfl (lv_at hl 1 rfl) ?_
  refine zV_z (As := [.int (iI k)]) (rest := []) ⟨hx, hb, hml, hown, hts⟩ (PY g u) (PY_blind g u) (PY_mv hP hK) (rcX hK hP) (c_X0_pegExists l g u k hI (by omega)) (cwV 1 hts gX0_setLeeway_X0_pegExists rfl rfl rfl (by decide +kernel) ⟨Nat.le_of_ble_eq_true rfl, Nat.le_of_ble_eq_true rfl⟩) rfl hl.1 rfl (Nat.le_of_ble_eq_true rfl) dX0_setLeeway_2 ⟨Nat.zero_le _, Nat.zero_le _⟩ (fun c_1 => ?_) (fun c_1 => ?_)
  · refine z_if_ne (tgt := 12) hx hb dX0_setLeeway_5 (by decide) ⟨by decide, by decide⟩ (fun c_2 => ?_) (fun c_2 => (absurd c_2 (by decide)))
    refine lv_iload_n hx hb dX0_setLeeway_12 rfl (lv_at hl 2 rfl) ?_
    refine z_bipush hx hb dX0_setLeeway_13 (by decide +kernel) ?_
    refine z_iconst hx hb dX0_setLeeway_15 ?_
    refine zS_z (As := [.int (iI w), .int (iI ((-2))), .int (iI 2)]) (rest := []) ⟨hx, hb, hml, hown, hts⟩ (PT) PT_blind PT_mv  (c_X0_inRange l g w ((-2)) 2 (by omega) (by omega) (by omega)) (va_cwS 3 hts gX0_setLeeway_X0_inRange rfl rfl rfl (by decide +kernel) ⟨Nat.le_of_ble_eq_true rfl, Nat.le_of_ble_eq_true rfl⟩) rfl hl.1 rfl (Nat.le_of_ble_eq_true rfl) dX0_setLeeway_16 ⟨Nat.zero_le _, Nat.zero_le _⟩ (fun c_3 => ?_) (fun c_3 => ?_)
    · refine z_if_ne (tgt := 26) hx hb dX0_setLeeway_19 (by decide) ⟨by decide, by decide⟩ (fun c_4 => ?_) (fun c_4 => (absurd c_4 (by decide)))
      refine lv_aload_n hx hb dX0_setLeeway_26 rfl (lv_at hl 0 rfl) ?_
      refine gf_X0_19 hx hb hts hin m19 hown hK hP dX0_setLeeway_27 ?_
      refine lv_iload_n hx hb dX0_setLeeway_30 rfl (lv_at hl 1 rfl) ?_
      refine al_X0_4 hx hb hK hP ⟨by omega, by omega⟩ dX0_setLeeway_31 ?_
      have hv_5 := iv_le hI k
      refine lv_istore_n (lv' := [(3, .int (iI (zle u k))), (0, .ref (gX g 0)), (1, .int (iI k)), (2, .int (iI w))]) hx hb dX0_setLeeway_32 rfl hl (by decide) rfl (fun ls hl => ?_)
      refine lv_aload_n hx hb dX0_setLeeway_33 rfl (lv_at hl 1 rfl) ?_
      refine gf_X0_19 hx hb hts hin m19 hown hK hP dX0_setLeeway_34 ?_
      refine lv_iload_n hx hb dX0_setLeeway_37 rfl (lv_at hl 2 rfl) ?_
      refine lv_iload_n hx hb dX0_setLeeway_38 rfl (lv_at hl 3 rfl) ?_
      refine as_X0_4 hx hb hK hP (wX_D hg _) hS ⟨by omega, by omega⟩ dX0_setLeeway_39 (fun H locs hP hS => ?_)
      refine lv_iload_n hx hb dX0_setLeeway_40 rfl (lv_at hl 0 rfl) ?_
      refine z_i2l hx hb (by omega) dX0_setLeeway_41 ?_
      exact zw_l (Post := (fun H9 => va_P (gD g) vwCl (wX g (slU u k w)) H9)) hx hb hr hlocks dX0_setLeeway_42 hS (by unfold slR eOR eNP; (repeat' split) <;> first | rfl | omega) (by unfold slU; split <;> first | exact hP | (exfalso; omega))
    · refine z_if_ne (tgt := 26) hx hb dX0_setLeeway_19 (by decide) ⟨by decide, by decide⟩ (fun c_6 => (absurd c_6 (by decide))) (fun c_6 => ?_)
      refine lv_ldc2 (v := jI (-9000000000000000001)) hx hb hown (hts _ m39) dX0_setLeeway_22 ?_
      exact zw_l (Post := (fun H9 => va_P (gD g) vwCl (wX g (slU u k w)) H9)) hx hb hr hlocks dX0_setLeeway_25 hS (by unfold slR eOR eNP; (repeat' split) <;> first | rfl | omega) (by unfold slU; split <;> first | exact hP | (exfalso; omega))
  · refine z_if_ne (tgt := 12) hx hb dX0_setLeeway_5 (by decide) ⟨by decide, by decide⟩ (fun c_7 => (absurd c_7 (by decide))) (fun c_7 => ?_)
    refine lv_ldc2 (v := jI (-9000000000000000002)) hx hb hown (hts _ m102) dX0_setLeeway_8 ?_
    exact zw_l (Post := (fun H9 => va_P (gD g) vwCl (wX g (slU u k w)) H9)) hx hb hr hlocks dX0_setLeeway_11 hS (by unfold slR eOR eNP; (repeat' split) <;> first | rfl | omega) (by unfold slU; split <;> first | exact hP | (exfalso; omega))
set_option maxHeartbeats 4000000 in
set_option maxRecDepth 100000 in
theorem c_X0_setCurrent (l : Launch) (g : GG) (u : ST) (hg : gOk g) (a : Int) (b : Int) (hI : Inv u) (hb_a : B32 a) (hb_b : B32 b) : Met l yX0_setCurrent wsX0_setCurrent (k2_rm 2 42) (va_Pc [.ref (gX g 0), .int (iI a), .int (iI b)] (fun U => PY g u U U.heap)) (va_Ql (fun r (_ : Unit) => r = jI (scR u a b)) (fun _ t => (fun H9 => va_P (gD g) vwCl (wX g (scU u a b)) H9) t.heap) (aX g)) 0 0 (aX g) := by
  refine Met.ofW (cc := cX0_setCurrent) (maxL := 4) (ret := (some .long)) (by decide) rfl ?_
  intro pp ee s mm args below meth cc9 s₁ B hml hv
  obtain ⟨rfl, hPX⟩ := hv
  obtain ⟨hP, hK⟩ := id hPX
  have hx := B.exec
  have hb := B.bytes
  have hr := B.returns
  have hts := atoms_spec (ws := wsX0_setCurrent) B.pre
  have hown : s.vm.findClass RX0 = some mm.cls := findClass_of_methodNamed B.named
  have hlocks := B.notSynchronized
  have hin : ∀ w ∈ wsX00, w ∈ wsX0_setCurrent := fun w h => List.mem_cons_of_mem _ (List.mem_append_right _ h)
  have m115 : Cond.fieldLink RX0 115 "TraverseBoard" "drift" "I" ∈ wsX0_setCurrent := by decide +kernel
  have m118 : Cond.fieldLink RX0 118 "TraverseBoard" "set" "I" ∈ wsX0_setCurrent := by decide +kernel
  have m39 : Cond.constantLong RX0 39 (-9000000000000000001) ∈ wsX0_setCurrent := by decide +kernel
  have hS : va_S (aX g) s.heap s.heap [] := va_S.rf
  have hi_bl := iv_bl hI
  have hi_pg := iv_pg hI
  have hi_se := iv_se hI
  have hi_dr := iv_dr hI
  have hl := lv_entry ([.ref (gX g 0), .int (iI a), .int (iI b)]) (n := 4) (Nat.le_of_ble_eq_true rfl)
  rw [lg_entry_eq]
  generalize (lg_sl ([.ref (gX g 0), .int (iI a), .int (iI b)]) ++ List.replicate (4 - (lg_sl ([.ref (gX g 0), .int (iI a), .int (iI b)])).length) Slot.unset).toArray = ls at hl ⊢
  have hl : lv_has ls 4 [(0, .ref (gX g 0)), (1, .int (iI a)), (2, .int (iI b))] := hl
  refine lv_iload_n hx hb dX0_setCurrent_0 rfl (lv_at hl 1 rfl) ?_
  refine zS_z (As := [.int (iI a)]) (rest := []) ⟨hx, hb, hml, hown, hts⟩ (PT) PT_blind PT_mv  (c_X0_isPoint l g a (by omega)) (va_cwS 1 hts gX0_setCurrent_X0_isPoint rfl rfl rfl (by decide +kernel) ⟨Nat.le_of_ble_eq_true rfl, Nat.le_of_ble_eq_true rfl⟩) rfl hl.1 rfl (Nat.le_of_ble_eq_true rfl) dX0_setCurrent_1 ⟨Nat.zero_le _, Nat.zero_le _⟩ (fun c_1 => ?_) (fun c_1 => ?_)
  · refine z_if_eq (tgt := 17) hx hb dX0_setCurrent_4 (by decide) ⟨by decide, by decide⟩ (fun c_2 => (absurd c_2 (by decide))) (fun c_2 => ?_)
    refine lv_iload_n hx hb dX0_setCurrent_7 rfl (lv_at hl 2 rfl) ?_
    refine z_iconst hx hb dX0_setCurrent_8 ?_
    refine z_bipush hx hb dX0_setCurrent_9 (by decide +kernel) ?_
    refine zS_z (As := [.int (iI b), .int (iI 0), .int (iI 50)]) (rest := []) ⟨hx, hb, hml, hown, hts⟩ (PT) PT_blind PT_mv  (c_X0_inRange l g b 0 50 (by omega) (by omega) (by omega)) (va_cwS 3 hts gX0_setCurrent_X0_inRange rfl rfl rfl (by decide +kernel) ⟨Nat.le_of_ble_eq_true rfl, Nat.le_of_ble_eq_true rfl⟩) rfl hl.1 rfl (Nat.le_of_ble_eq_true rfl) dX0_setCurrent_11 ⟨Nat.zero_le _, Nat.zero_le _⟩ (fun c_3 => ?_) (fun c_3 => ?_)
    · refine z_if_ne (tgt := 21) hx hb dX0_setCurrent_14 (by decide) ⟨by decide, by decide⟩ (fun c_4 => ?_) (fun c_4 => (absurd c_4 (by decide)))
      refine lv_aload_n hx hb dX0_setCurrent_21 rfl (lv_at hl 0 rfl) ?_
      refine gf_X0_115 (z := zdr u) hx hb hts hin m115 hown hK hP rfl dX0_setCurrent_22 ?_
      refine lv_istore_n (lv' := [(3, .int (iI (zdr u))), (0, .ref (gX g 0)), (1, .int (iI a)), (2, .int (iI b))]) hx hb dX0_setCurrent_25 rfl hl (by decide) rfl (fun ls hl => ?_)
      refine lv_aload_n hx hb dX0_setCurrent_26 rfl (lv_at hl 1 rfl) ?_
      refine lv_iload_n hx hb dX0_setCurrent_27 rfl (lv_at hl 2 rfl) ?_
      refine pf_X0_118 hx hb hts hin m118 hown hK hP (wX_D hg _) hS dX0_setCurrent_28 (fun H locs hP hS => ?_)
      refine lv_aload_n hx hb dX0_setCurrent_31 rfl (lv_at hl 1 rfl) ?_
      refine lv_iload_n hx hb dX0_setCurrent_32 rfl (lv_at hl 3 rfl) ?_
      refine pf_X0_115 hx hb hts hin m115 hown hK hP (wX_D hg _) hS dX0_setCurrent_33 (fun H locs hP hS => ?_)
      refine lv_iload_n hx hb dX0_setCurrent_36 rfl (lv_at hl 0 rfl) ?_
      refine z_i2l hx hb (by omega) dX0_setCurrent_37 ?_
      exact zw_l (Post := (fun H9 => va_P (gD g) vwCl (wX g (scU u a b)) H9)) hx hb hr hlocks dX0_setCurrent_38 hS (by unfold scR eOR; (repeat' split) <;> first | rfl | omega) (by unfold scU; split <;> first | exact hP | (exfalso; omega))
    · refine z_if_ne (tgt := 21) hx hb dX0_setCurrent_14 (by decide) ⟨by decide, by decide⟩ (fun c_5 => (absurd c_5 (by decide))) (fun c_5 => ?_)
      refine lv_ldc2 (v := jI (-9000000000000000001)) hx hb hown (hts _ m39) dX0_setCurrent_17 ?_
      exact zw_l (Post := (fun H9 => va_P (gD g) vwCl (wX g (scU u a b)) H9)) hx hb hr hlocks dX0_setCurrent_20 hS (by unfold scR eOR; (repeat' split) <;> first | rfl | omega) (by unfold scU; split <;> first | exact hP | (exfalso; omega))
  · refine z_if_eq (tgt := 17) hx hb dX0_setCurrent_4 (by decide) ⟨by decide, by decide⟩ (fun c_6 => ?_) (fun c_6 => (absurd c_6 (by decide)))
    refine lv_ldc2 (v := jI (-9000000000000000001)) hx hb hown (hts _ m39) dX0_setCurrent_17 ?_
    exact zw_l (Post := (fun H9 => va_P (gD g) vwCl (wX g (scU u a b)) H9)) hx hb hr hlocks dX0_setCurrent_20 hS (by unfold scR eOR; (repeat' split) <;> first | rfl | omega) (by unfold scU; split <;> first | exact hP | (exfalso; omega))
