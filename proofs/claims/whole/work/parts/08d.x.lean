/-! the class, by program (genx.py): X0_pegCount X0_pointOf X0_speedOf X0_speedTowards X0_firstLost X0_fixCanStand X0_isCoordinate X0_fixCount -/
set_option maxHeartbeats 4000000 in
set_option maxRecDepth 100000 in
theorem c_X0_pegCount (l : Launch) (g : GG) (u : ST) (hI : Inv u) : Met l yX0_pegCount wsX0_pegCount (k2_rm 0 0) (va_Pc [.ref (gX g 0)] (fun U => PY g u U U.heap)) (vp_Sl (fun r => r = jI (zpg u))) 0 0 (fun _ => False) := by
  refine Met.ofW (cc := cX0_pegCount) (maxL := 1) (ret := (some .long)) (by decide) rfl ?_
  intro pp ee s mm args below meth cc9 s₁ B hml hv
  obtain ⟨rfl, hPX⟩ := hv
  obtain ⟨hP, hK⟩ := id hPX
  have hx := B.exec
  have hb := B.bytes
  have hr := B.returns
  have hts := atoms_spec (ws := wsX0_pegCount) B.pre
  have hown : s.vm.findClass RX0 = some mm.cls := findClass_of_methodNamed B.named
  have hlocks := B.notSynchronized
  have hin : ∀ w ∈ wsX00, w ∈ wsX0_pegCount := fun w h => List.mem_cons_of_mem _ (List.mem_append_right _ h)
  have m71 : Cond.fieldLink RX0 71 "TraverseBoard" "pegs" "I" ∈ wsX0_pegCount := by decide +kernel
  have hi_bl := iv_bl hI
  have hi_pg := iv_pg hI
  have hi_se := iv_se hI
  have hi_dr := iv_dr hI
  have hl := lv_entry ([.ref (gX g 0)]) (n := 1) (Nat.le_of_ble_eq_true rfl)
  rw [lg_entry_eq]
  generalize (lg_sl ([.ref (gX g 0)]) ++ List.replicate (1 - (lg_sl ([.ref (gX g 0)])).length) Slot.unset).toArray = ls at hl ⊢
  have hl : lv_has ls 1 [(0, .ref (gX g 0))] := hl
  refine lv_aload_n hx hb dX0_pegCount_0 rfl (lv_at hl 0 rfl) ?_
  refine gf_X0_71 (z := zpg u) hx hb hts hin m71 hown hK hP rfl dX0_pegCount_1 ?_
  refine z_i2l hx hb (by omega) dX0_pegCount_4 ?_
  exact zr_l hx hb hr hlocks dX0_pegCount_5 (by first | rfl | omega)
set_option maxHeartbeats 4000000 in
set_option maxRecDepth 100000 in
theorem c_X0_pointOf (l : Launch) (g : GG) (u : ST) (k : Int) (hI : Inv u) (hb_k : B32 k) : Met l yX0_pointOf wsX0_pointOf (k2_rm 2 43) (va_Pc [.ref (gX g 0), .int (iI k)] (fun U => PY g u U U.heap)) (vp_Sl (fun r => r = jI (poR u k))) 0 0 (fun _ => False) := by
  refine Met.ofW (cc := cX0_pointOf) (maxL := 2) (ret := (some .long)) (by decide) rfl ?_
  intro pp ee s mm args below meth cc9 s₁ B hml hv
  obtain ⟨rfl, hPX⟩ := hv
  obtain ⟨hP, hK⟩ := id hPX
  have hx := B.exec
  have hb := B.bytes
  have hr := B.returns
  have hts := atoms_spec (ws := wsX0_pointOf) B.pre
  have hown : s.vm.findClass RX0 = some mm.cls := findClass_of_methodNamed B.named
  have hlocks := B.notSynchronized
  have hin : ∀ w ∈ wsX00, w ∈ wsX0_pointOf := fun w h => List.mem_cons_of_mem _ (List.mem_append_right _ h)
  have m102 : Cond.constantLong RX0 102 (-9000000000000000002) ∈ wsX0_pointOf := by decide +kernel
  have m110 : Cond.constantLong RX0 110 (-9000000000000000006) ∈ wsX0_pointOf := by decide +kernel
  have m13 : Cond.fieldLink RX0 13 "TraverseBoard" "points" "[I" ∈ wsX0_pointOf := by decide +kernel
  have m22 : Cond.fieldLink RX0 22 "TraverseBoard" "lost" "[Z" ∈ wsX0_pointOf := by decide +kernel
  have hi_bl := iv_bl hI
  have hi_pg := iv_pg hI
  have hi_se := iv_se hI
  have hi_dr := iv_dr hI
  have hl := lv_entry ([.ref (gX g 0), .int (iI k)]) (n := 2) (Nat.le_of_ble_eq_true rfl)
  rw [lg_entry_eq]
  generalize (lg_sl ([.ref (gX g 0), .int (iI k)]) ++ List.replicate (2 - (lg_sl ([.ref (gX g 0), .int (iI k)])).length) Slot.unset).toArray = ls at hl ⊢
  have hl : lv_has ls 2 [(0, .ref (gX g 0)), (1, .int (iI k))] := hl
  refine lv_aload_n hx hb dX0_pointOf_0 rfl (lv_at hl 0 rfl) ?_
  refine lv_iload_n hx hb dX0_pointOf_1 rfl (lv_at hl 1 rfl) ?_
  refine zV_z (As := [.int (iI k)]) (rest := []) ⟨hx, hb, hml, hown, hts⟩ (PY g u) (PY_blind g u) (PY_mv hP hK) (rcX hK hP) (c_X0_pegExists l g u k hI (by omega)) (cwV 1 hts gX0_pointOf_X0_pegExists rfl rfl rfl (by decide +kernel) ⟨Nat.le_of_ble_eq_true rfl, Nat.le_of_ble_eq_true rfl⟩) rfl hl.1 rfl (Nat.le_of_ble_eq_true rfl) dX0_pointOf_2 ⟨Nat.zero_le _, Nat.zero_le _⟩ (fun c_1 => ?_) (fun c_1 => ?_)
  · refine z_if_ne (tgt := 12) hx hb dX0_pointOf_5 (by decide) ⟨by decide, by decide⟩ (fun c_2 => ?_) (fun c_2 => (absurd c_2 (by decide)))
    refine lv_aload_n hx hb dX0_pointOf_12 rfl (lv_at hl 0 rfl) ?_
    refine gf_X0_22 hx hb hts hin m22 hown hK hP dX0_pointOf_13 ?_
    refine lv_iload_n hx hb dX0_pointOf_16 rfl (lv_at hl 1 rfl) ?_
    refine al_X0_5 hx hb hK hP ⟨by omega, by omega⟩ dX0_pointOf_17 ?_
    have hv_3 := iv_lo hI k
    refine z_if_eq (tgt := 27) hx hb dX0_pointOf_18 (by decide) (by omega) (fun c_4 => ?_) (fun c_4 => ?_)
    · refine lv_aload_n hx hb dX0_pointOf_27 rfl (lv_at hl 0 rfl) ?_
      refine gf_X0_13 hx hb hts hin m13 hown hK hP dX0_pointOf_28 ?_
      refine lv_iload_n hx hb dX0_pointOf_31 rfl (lv_at hl 1 rfl) ?_
      refine al_X0_2 hx hb hK hP ⟨by omega, by omega⟩ dX0_pointOf_32 ?_
      have hv_5 := iv_po hI k
      refine z_i2l hx hb (by omega) dX0_pointOf_33 ?_
      exact zr_l hx hb hr hlocks dX0_pointOf_34 (by unfold poR ptc eNP eWS; (repeat' split) <;> first | rfl | omega)
    · refine lv_ldc2 (v := jI (-9000000000000000006)) hx hb hown (hts _ m110) dX0_pointOf_21 ?_
      refine lv_goto (tgt := 34) hx hb dX0_pointOf_24 (by decide) ?_
      exact zr_l hx hb hr hlocks dX0_pointOf_34 (by unfold poR ptc eNP eWS; (repeat' split) <;> first | rfl | omega)
  · refine z_if_ne (tgt := 12) hx hb dX0_pointOf_5 (by decide) ⟨by decide, by decide⟩ (fun c_6 => (absurd c_6 (by decide))) (fun c_6 => ?_)
    refine lv_ldc2 (v := jI (-9000000000000000002)) hx hb hown (hts _ m102) dX0_pointOf_8 ?_
    exact zr_l hx hb hr hlocks dX0_pointOf_11 (by unfold poR ptc eNP eWS; (repeat' split) <;> first | rfl | omega)
set_option maxHeartbeats 4000000 in
set_option maxRecDepth 100000 in
theorem c_X0_speedOf (l : Launch) (g : GG) (u : ST) (k : Int) (hI : Inv u) (hb_k : B32 k) : Met l yX0_speedOf wsX0_speedOf (k2_rm 2 43) (va_Pc [.ref (gX g 0), .int (iI k)] (fun U => PY g u U U.heap)) (vp_Sl (fun r => r = jI (spR u k))) 0 0 (fun _ => False) := by
  refine Met.ofW (cc := cX0_speedOf) (maxL := 2) (ret := (some .long)) (by decide) rfl ?_
  intro pp ee s mm args below meth cc9 s₁ B hml hv
  obtain ⟨rfl, hPX⟩ := hv
  obtain ⟨hP, hK⟩ := id hPX
  have hx := B.exec
  have hb := B.bytes
  have hr := B.returns
  have hts := atoms_spec (ws := wsX0_speedOf) B.pre
  have hown : s.vm.findClass RX0 = some mm.cls := findClass_of_methodNamed B.named
  have hlocks := B.notSynchronized
  have hin : ∀ w ∈ wsX00, w ∈ wsX0_speedOf := fun w h => List.mem_cons_of_mem _ (List.mem_append_right _ h)
  have m102 : Cond.constantLong RX0 102 (-9000000000000000002) ∈ wsX0_speedOf := by decide +kernel
  have m110 : Cond.constantLong RX0 110 (-9000000000000000006) ∈ wsX0_speedOf := by decide +kernel
  have m16 : Cond.fieldLink RX0 16 "TraverseBoard" "speeds" "[I" ∈ wsX0_speedOf := by decide +kernel
  have m22 : Cond.fieldLink RX0 22 "TraverseBoard" "lost" "[Z" ∈ wsX0_speedOf := by decide +kernel
  have hi_bl := iv_bl hI
  have hi_pg := iv_pg hI
  have hi_se := iv_se hI
  have hi_dr := iv_dr hI
  have hl := lv_entry ([.ref (gX g 0), .int (iI k)]) (n := 2) (Nat.le_of_ble_eq_true rfl)
  rw [lg_entry_eq]
  generalize (lg_sl ([.ref (gX g 0), .int (iI k)]) ++ List.replicate (2 - (lg_sl ([.ref (gX g 0), .int (iI k)])).length) Slot.unset).toArray = ls at hl ⊢
  have hl : lv_has ls 2 [(0, .ref (gX g 0)), (1, .int (iI k))] := hl
  refine lv_aload_n hx hb dX0_speedOf_0 rfl (lv_at hl 0 rfl) ?_
  refine lv_iload_n hx hb dX0_speedOf_1 rfl (lv_at hl 1 rfl) ?_
  refine zV_z (As := [.int (iI k)]) (rest := []) ⟨hx, hb, hml, hown, hts⟩ (PY g u) (PY_blind g u) (PY_mv hP hK) (rcX hK hP) (c_X0_pegExists l g u k hI (by omega)) (cwV 1 hts gX0_speedOf_X0_pegExists rfl rfl rfl (by decide +kernel) ⟨Nat.le_of_ble_eq_true rfl, Nat.le_of_ble_eq_true rfl⟩) rfl hl.1 rfl (Nat.le_of_ble_eq_true rfl) dX0_speedOf_2 ⟨Nat.zero_le _, Nat.zero_le _⟩ (fun c_1 => ?_) (fun c_1 => ?_)
  · refine z_if_ne (tgt := 12) hx hb dX0_speedOf_5 (by decide) ⟨by decide, by decide⟩ (fun c_2 => ?_) (fun c_2 => (absurd c_2 (by decide)))
    refine lv_aload_n hx hb dX0_speedOf_12 rfl (lv_at hl 0 rfl) ?_
    refine gf_X0_22 hx hb hts hin m22 hown hK hP dX0_speedOf_13 ?_
    refine lv_iload_n hx hb dX0_speedOf_16 rfl (lv_at hl 1 rfl) ?_
    refine al_X0_5 hx hb hK hP ⟨by omega, by omega⟩ dX0_speedOf_17 ?_
    have hv_3 := iv_lo hI k
    refine z_if_eq (tgt := 27) hx hb dX0_speedOf_18 (by decide) (by omega) (fun c_4 => ?_) (fun c_4 => ?_)
    · refine lv_aload_n hx hb dX0_speedOf_27 rfl (lv_at hl 0 rfl) ?_
      refine gf_X0_16 hx hb hts hin m16 hown hK hP dX0_speedOf_28 ?_
      refine lv_iload_n hx hb dX0_speedOf_31 rfl (lv_at hl 1 rfl) ?_
      refine al_X0_3 hx hb hK hP ⟨by omega, by omega⟩ dX0_speedOf_32 ?_
      have hv_5 := iv_sp hI k
      refine z_i2l hx hb (by omega) dX0_speedOf_33 ?_
      exact zr_l hx hb hr hlocks dX0_speedOf_34 (by unfold spR spc eNP eWS; (repeat' split) <;> first | rfl | omega)
    · refine lv_ldc2 (v := jI (-9000000000000000006)) hx hb hown (hts _ m110) dX0_speedOf_21 ?_
      refine lv_goto (tgt := 34) hx hb dX0_speedOf_24 (by decide) ?_
      exact zr_l hx hb hr hlocks dX0_speedOf_34 (by unfold spR spc eNP eWS; (repeat' split) <;> first | rfl | omega)
  · refine z_if_ne (tgt := 12) hx hb dX0_speedOf_5 (by decide) ⟨by decide, by decide⟩ (fun c_6 => (absurd c_6 (by decide))) (fun c_6 => ?_)
    refine lv_ldc2 (v := jI (-9000000000000000002)) hx hb hown (hts _ m102) dX0_speedOf_8 ?_
    exact zr_l hx hb hr hlocks dX0_speedOf_11 (by unfold spR spc eNP eWS; (repeat' split) <;> first | rfl | omega)
set_option maxHeartbeats 4000000 in
set_option maxRecDepth 100000 in
theorem c_X0_speedTowards (l : Launch) (g : GG) (u : ST) (p : Int) (hI : Inv u) (hb_p : B32 p) : Met l yX0_speedTowards wsX0_speedTowards (k2_rm 2 42) (va_Pc [.ref (gX g 0), .int (iI p)] (fun U => PY g u U U.heap)) (vp_Sl (fun r => r = jI (stR u p))) 0 0 (fun _ => False) := by
  refine Met.ofW (cc := cX0_speedTowards) (maxL := 4) (ret := (some .long)) (by decide) rfl ?_
  intro pp ee s mm args below meth cc9 s₁ B hml hv
  obtain ⟨rfl, hPX⟩ := hv
  obtain ⟨hP, hK⟩ := id hPX
  have hx := B.exec
  have hb := B.bytes
  have hr := B.returns
  have hts := atoms_spec (ws := wsX0_speedTowards) B.pre
  have hown : s.vm.findClass RX0 = some mm.cls := findClass_of_methodNamed B.named
  have hlocks := B.notSynchronized
  have hin : ∀ w ∈ wsX00, w ∈ wsX0_speedTowards := fun w h => List.mem_cons_of_mem _ (List.mem_append_right _ h)
  have m13 : Cond.fieldLink RX0 13 "TraverseBoard" "points" "[I" ∈ wsX0_speedTowards := by decide +kernel
  have m16 : Cond.fieldLink RX0 16 "TraverseBoard" "speeds" "[I" ∈ wsX0_speedTowards := by decide +kernel
  have m22 : Cond.fieldLink RX0 22 "TraverseBoard" "lost" "[Z" ∈ wsX0_speedTowards := by decide +kernel
  have m39 : Cond.constantLong RX0 39 (-9000000000000000001) ∈ wsX0_speedTowards := by decide +kernel
  have m71 : Cond.fieldLink RX0 71 "TraverseBoard" "pegs" "I" ∈ wsX0_speedTowards := by decide +kernel
  have hi_bl := iv_bl hI
  have hi_pg := iv_pg hI
  have hi_se := iv_se hI
  have hi_dr := iv_dr hI
  have hl := lv_entry ([.ref (gX g 0), .int (iI p)]) (n := 4) (Nat.le_of_ble_eq_true rfl)
  rw [lg_entry_eq]
  generalize (lg_sl ([.ref (gX g 0), .int (iI p)]) ++ List.replicate (4 - (lg_sl ([.ref (gX g 0), .int (iI p)])).length) Slot.unset).toArray = ls at hl ⊢
  have hl : lv_has ls 4 [(0, .ref (gX g 0)), (1, .int (iI p))] := hl
  refine lv_iload_n hx hb dX0_speedTowards_0 rfl (lv_at hl 1 rfl) ?_
  refine zS_z (As := [.int (iI p)]) (rest := []) ⟨hx, hb, hml, hown, hts⟩ (PT) PT_blind PT_mv  (c_X0_isPoint l g p (by omega)) (va_cwS 1 hts gX0_speedTowards_X0_isPoint rfl rfl rfl (by decide +kernel) ⟨Nat.le_of_ble_eq_true rfl, Nat.le_of_ble_eq_true rfl⟩) rfl hl.1 rfl (Nat.le_of_ble_eq_true rfl) dX0_speedTowards_1 ⟨Nat.zero_le _, Nat.zero_le _⟩ (fun c_1 => ?_) (fun c_1 => ?_)
  · refine z_if_ne (tgt := 11) hx hb dX0_speedTowards_4 (by decide) ⟨by decide, by decide⟩ (fun c_2 => ?_) (fun c_2 => (absurd c_2 (by decide)))
    refine z_iconst hx hb dX0_speedTowards_11 ?_
    refine lv_istore_n (lv' := [(2, .int (iI 0)), (0, .ref (gX g 0)), (1, .int (iI p))]) hx hb dX0_speedTowards_12 rfl hl (by decide) rfl (fun ls hl => ?_)
    refine z_iconst hx hb dX0_speedTowards_13 ?_
    refine lv_istore_n (lv' := [(3, .int (iI 0)), (2, .int (iI 0)), (0, .ref (gX g 0)), (1, .int (iI p))]) hx hb dX0_speedTowards_14 rfl hl (by decide) rfl (fun ls hl => ?_)
    refine z_loop2 (nL := 4) (fun x t => (0 ≤ t ∧ t ≤ zpg u) ∧ (0 ≤ x ∧ x ≤ 200 * t) ∧ (x = sz (fun k => if zlo u k = 0 ∧ zpo u k = p then zsp u k else 0) 0 t)) (fun x t => (zpg u - t).toNat) (fun x t => [(0, .ref (gX g 0)), (1, .int (iI p)), (2, .int (iI x)), (3, .int (iI t))]) (fun x t ls hinv hl ih_15 => ?_) 0 0 ls ⟨(by omega), (by omega), (by exact (sz_0 (Int.le_refl _)).symm)⟩ (lv_sub hl [2, 3, 1, 0] rfl)
    have hinv : (0 ≤ t ∧ t ≤ zpg u) ∧ (0 ≤ x ∧ x ≤ 200 * t) ∧ (x = sz (fun k => if zlo u k = 0 ∧ zpo u k = p then zsp u k else 0) 0 t) := hinv
    obtain ⟨q1z, q2z, q3z⟩ := hinv
    have hl : lv_has ls 4 [(0, .ref (gX g 0)), (1, .int (iI p)), (2, .int (iI x)), (3, .int (iI t))] := hl
    have hl9 := iv_lo hI t
    refine lv_iload_n hx hb dX0_speedTowards_15 rfl (lv_at hl 3 rfl) ?_
    refine lv_aload_n hx hb dX0_speedTowards_16 rfl (lv_at hl 0 rfl) ?_
    refine gf_X0_71 (z := zpg u) hx hb hts hin m71 hown hK hP rfl dX0_speedTowards_17 ?_
    refine z_icmp_ge (tgt := 57) hx hb dX0_speedTowards_20 (by decide) (by omega) (by omega) (fun c_3 => ?_) (fun c_3 => ?_)
    · refine lv_iload_n hx hb dX0_speedTowards_57 rfl (lv_at hl 2 rfl) ?_
      refine z_i2l hx hb (by omega) dX0_speedTowards_58 ?_
      exact zr_l hx hb hr hlocks dX0_speedTowards_59 (by rw [stR, if_pos (by omega), q3z, show t = zpg u by omega])
    · refine lv_aload_n hx hb dX0_speedTowards_23 rfl (lv_at hl 0 rfl) ?_
      refine gf_X0_22 hx hb hts hin m22 hown hK hP dX0_speedTowards_24 ?_
      refine lv_iload_n hx hb dX0_speedTowards_27 rfl (lv_at hl 3 rfl) ?_
      refine al_X0_5 hx hb hK hP ⟨by omega, by omega⟩ dX0_speedTowards_28 ?_
      have hv_4 := iv_lo hI t
      refine z_if_ne (tgt := 51) hx hb dX0_speedTowards_29 (by decide) (by omega) (fun c_5 => ?_) (fun c_5 => ?_)
      · refine z_iinc (k := 3) (lv' := [(3, .int (iI (t + 1))), (0, .ref (gX g 0)), (1, .int (iI p)), (2, .int (iI x))]) hx hb dX0_speedTowards_51 hl rfl (by decide) rfl (fun ls hl => ?_)
        refine lv_goto (tgt := 15) hx hb dX0_speedTowards_54 (by decide) ?_
        exact ih_15 x (t + 1) ls ⟨(by omega), (by omega), (by rw [sz_s q1z.1, ← q3z]; first | rw [if_pos ⟨by omega, by omega⟩] | (rw [if_neg (by omega)]; omega))⟩ (show (zpg u - (t + 1)).toNat < (zpg u - t).toNat by omega) (lv_sub hl [1, 2, 3, 0] rfl)
      · refine lv_aload_n hx hb dX0_speedTowards_32 rfl (lv_at hl 0 rfl) ?_
        refine gf_X0_13 hx hb hts hin m13 hown hK hP dX0_speedTowards_33 ?_
        refine lv_iload_n hx hb dX0_speedTowards_36 rfl (lv_at hl 3 rfl) ?_
        refine al_X0_2 hx hb hK hP ⟨by omega, by omega⟩ dX0_speedTowards_37 ?_
        have hv_6 := iv_po hI t
        refine lv_iload_n hx hb dX0_speedTowards_38 rfl (lv_at hl 1 rfl) ?_
        refine z_icmp_ne (tgt := 51) hx hb dX0_speedTowards_39 (by decide) (by omega) (by omega) (fun c_7 => ?_) (fun c_7 => ?_)
        · refine z_iinc (k := 3) (lv' := [(3, .int (iI (t + 1))), (0, .ref (gX g 0)), (1, .int (iI p)), (2, .int (iI x))]) hx hb dX0_speedTowards_51 hl rfl (by decide) rfl (fun ls hl => ?_)
          refine lv_goto (tgt := 15) hx hb dX0_speedTowards_54 (by decide) ?_
          exact ih_15 x (t + 1) ls ⟨(by omega), (by omega), (by rw [sz_s q1z.1, ← q3z]; first | rw [if_pos ⟨by omega, by omega⟩] | (rw [if_neg (by omega)]; omega))⟩ (show (zpg u - (t + 1)).toNat < (zpg u - t).toNat by omega) (lv_sub hl [1, 2, 3, 0] rfl)
        · refine lv_iload_n hx hb dX0_speedTowards_42 rfl (lv_at hl 2 rfl) ?_
          refine lv_aload_n hx hb dX0_speedTowards_43 rfl (lv_at hl 0 rfl) ?_
          refine gf_X0_16 hx hb hts hin m16 hown hK hP dX0_speedTowards_44 ?_
          refine lv_iload_n hx hb dX0_speedTowards_47 rfl (lv_at hl 3 rfl) ?_
          refine al_X0_3 hx hb hK hP ⟨by omega, by omega⟩ dX0_speedTowards_48 ?_
          have hv_8 := iv_sp hI t
          refine z_iadd hx hb dX0_speedTowards_49 ?_
          refine lv_istore_n (lv' := [(2, .int (iI (x + (zsp u t)))), (0, .ref (gX g 0)), (1, .int (iI p)), (3, .int (iI t))]) hx hb dX0_speedTowards_50 rfl hl (by decide) rfl (fun ls hl => ?_)
          refine z_iinc (k := 3) (lv' := [(3, .int (iI (t + 1))), (2, .int (iI (x + (zsp u t)))), (0, .ref (gX g 0)), (1, .int (iI p))]) hx hb dX0_speedTowards_51 hl rfl (by decide) rfl (fun ls hl => ?_)
          refine lv_goto (tgt := 15) hx hb dX0_speedTowards_54 (by decide) ?_
          exact ih_15 (x + (zsp u t)) (t + 1) ls ⟨(by omega), (by omega), (by rw [sz_s q1z.1, ← q3z]; first | rw [if_pos ⟨by omega, by omega⟩] | (rw [if_neg (by omega)]; omega))⟩ (show (zpg u - (t + 1)).toNat < (zpg u - t).toNat by omega) (lv_sub hl [2, 3, 1, 0] rfl)
  · refine z_if_ne (tgt := 11) hx hb dX0_speedTowards_4 (by decide) ⟨by decide, by decide⟩ (fun c_9 => (absurd c_9 (by decide))) (fun c_9 => ?_)
    refine lv_ldc2 (v := jI (-9000000000000000001)) hx hb hown (hts _ m39) dX0_speedTowards_7 ?_
    exact zr_l hx hb hr hlocks dX0_speedTowards_10 (by rw [stR, if_neg (by omega)]; rfl)
set_option maxHeartbeats 4000000 in
set_option maxRecDepth 100000 in
theorem c_X0_firstLost (l : Launch) (g : GG) (u : ST) (hI : Inv u) : Met l yX0_firstLost wsX0_firstLost (k2_rm 0 0) (va_Pc [.ref (gX g 0)] (fun U => PY g u U U.heap)) (vp_Si (fun r => r = iI (fl u))) 0 0 (fun _ => False) := by
  refine Met.ofW (cc := cX0_firstLost) (maxL := 2) (ret := (some .int)) (by decide) rfl ?_
  intro pp ee s mm args below meth cc9 s₁ B hml hv
  obtain ⟨rfl, hPX⟩ := hv
  obtain ⟨hP, hK⟩ := id hPX
  have hx := B.exec
  have hb := B.bytes
  have hr := B.returns
  have hts := atoms_spec (ws := wsX0_firstLost) B.pre
  have hown : s.vm.findClass RX0 = some mm.cls := findClass_of_methodNamed B.named
  have hlocks := B.notSynchronized
  have hin : ∀ w ∈ wsX00, w ∈ wsX0_firstLost := fun w h => List.mem_cons_of_mem _ (List.mem_append_right _ h)
  have m22 : Cond.fieldLink RX0 22 "TraverseBoard" "lost" "[Z" ∈ wsX0_firstLost := by decide +kernel
  have m71 : Cond.fieldLink RX0 71 "TraverseBoard" "pegs" "I" ∈ wsX0_firstLost := by decide +kernel
  have hi_bl := iv_bl hI
  have hi_pg := iv_pg hI
  have hi_se := iv_se hI
  have hi_dr := iv_dr hI
  have hl := lv_entry ([.ref (gX g 0)]) (n := 2) (Nat.le_of_ble_eq_true rfl)
  rw [lg_entry_eq]
  generalize (lg_sl ([.ref (gX g 0)]) ++ List.replicate (2 - (lg_sl ([.ref (gX g 0)])).length) Slot.unset).toArray = ls at hl ⊢
  have hl : lv_has ls 2 [(0, .ref (gX g 0))] := hl
  refine z_iconst hx hb dX0_firstLost_0 ?_
  refine lv_istore_n (lv' := [(1, .int (iI 0)), (0, .ref (gX g 0))]) hx hb dX0_firstLost_1 rfl hl (by decide) rfl (fun ls hl => ?_)
  refine z_loop1 (nL := 2) (fun t => (0 ≤ t ∧ t ≤ zpg u) ∧ (fl u = ff (zlo u) t (zpg u))) (fun t => (zpg u - t).toNat) (fun t => [(0, .ref (gX g 0)), (1, .int (iI t))]) (fun t ls hinv hl ih_2 => ?_) 0 ls ⟨(by omega), (by rfl)⟩ (lv_sub hl [1, 0] rfl)
  have hinv : (0 ≤ t ∧ t ≤ zpg u) ∧ (fl u = ff (zlo u) t (zpg u)) := hinv
  obtain ⟨q1z, q3z⟩ := hinv
  have hl : lv_has ls 2 [(0, .ref (gX g 0)), (1, .int (iI t))] := hl
  have hl9 := iv_lo hI t
  refine lv_iload_n hx hb dX0_firstLost_2 rfl (lv_at hl 1 rfl) ?_
  refine lv_aload_n hx hb dX0_firstLost_3 rfl (lv_at hl 0 rfl) ?_
  refine gf_X0_71 (z := zpg u) hx hb hts hin m71 hown hK hP rfl dX0_firstLost_4 ?_
  refine z_icmp_ge (tgt := 27) hx hb dX0_firstLost_7 (by decide) (by omega) (by omega) (fun c_1 => ?_) (fun c_1 => ?_)
  · refine z_iconst hx hb dX0_firstLost_27 ?_
    exact zr_i hx hb hr hlocks dX0_firstLost_28 (by rw [q3z, ff_0 (by omega)])
  · refine lv_aload_n hx hb dX0_firstLost_10 rfl (lv_at hl 0 rfl) ?_
    refine gf_X0_22 hx hb hts hin m22 hown hK hP dX0_firstLost_11 ?_
    refine lv_iload_n hx hb dX0_firstLost_14 rfl (lv_at hl 1 rfl) ?_
    refine al_X0_5 hx hb hK hP ⟨by omega, by omega⟩ dX0_firstLost_15 ?_
    have hv_2 := iv_lo hI t
    refine z_if_eq (tgt := 21) hx hb dX0_firstLost_16 (by decide) (by omega) (fun c_3 => ?_) (fun c_3 => ?_)
    · refine z_iinc (k := 1) (lv' := [(1, .int (iI (t + 1))), (0, .ref (gX g 0))]) hx hb dX0_firstLost_21 hl rfl (by decide) rfl (fun ls hl => ?_)
      refine lv_goto (tgt := 2) hx hb dX0_firstLost_24 (by decide) ?_
      exact ih_2 (t + 1) ls ⟨(by omega), (by rw [q3z]; exact ff_go (by omega) (by omega))⟩ (show (zpg u - (t + 1)).toNat < (zpg u - t).toNat by omega) (lv_sub hl [1, 0] rfl)
    · refine lv_iload_n hx hb dX0_firstLost_19 rfl (lv_at hl 1 rfl) ?_
      exact zr_i hx hb hr hlocks dX0_firstLost_20 (by rw [q3z, ff_stop (by omega) (by omega)])
set_option maxHeartbeats 4000000 in
set_option maxRecDepth 100000 in
theorem c_X0_fixCanStand (l : Launch) (g : GG) (u : ST) (v : Int) (hI : Inv u) (hb_v : B32 v) : Met l yX0_fixCanStand wsX0_fixCanStand (k2_rm 1 22) (va_Pc [.ref (gX g 0), .int (iI v)] (fun U => PY g u U U.heap)) (vp_Si (fun r => (r = iI 1 ∧ (1 ≤ v ∧ v ≤ zpg u)) ∨ (r = iI 0 ∧ ¬ (1 ≤ v ∧ v ≤ zpg u)))) 0 0 (fun _ => False) := by
  refine Met.ofW (cc := cX0_fixCanStand) (maxL := 2) (ret := (some .boolean)) (by decide) rfl ?_
  intro pp ee s mm args below meth cc9 s₁ B hml hv
  obtain ⟨rfl, hPX⟩ := hv
  obtain ⟨hP, hK⟩ := id hPX
  have hx := B.exec
  have hb := B.bytes
  have hr := B.returns
  have hts := atoms_spec (ws := wsX0_fixCanStand) B.pre
  have hown : s.vm.findClass RX0 = some mm.cls := findClass_of_methodNamed B.named
  have hlocks := B.notSynchronized
  have hin : ∀ w ∈ wsX00, w ∈ wsX0_fixCanStand := fun w h => List.mem_cons_of_mem _ (List.mem_append_right _ h)
  have m71 : Cond.fieldLink RX0 71 "TraverseBoard" "pegs" "I" ∈ wsX0_fixCanStand := by decide +kernel
  have hi_bl := iv_bl hI
  have hi_pg := iv_pg hI
  have hi_se := iv_se hI
  have hi_dr := iv_dr hI
  have hl := lv_entry ([.ref (gX g 0), .int (iI v)]) (n := 2) (Nat.le_of_ble_eq_true rfl)
  rw [lg_entry_eq]
  generalize (lg_sl ([.ref (gX g 0), .int (iI v)]) ++ List.replicate (2 - (lg_sl ([.ref (gX g 0), .int (iI v)])).length) Slot.unset).toArray = ls at hl ⊢
  have hl : lv_has ls 2 [(0, .ref (gX g 0)), (1, .int (iI v))] := hl
  refine lv_iload_n hx hb dX0_fixCanStand_0 rfl (lv_at hl 1 rfl) ?_
  refine z_iconst hx hb dX0_fixCanStand_1 ?_
  refine lv_aload_n hx hb dX0_fixCanStand_2 rfl (lv_at hl 0 rfl) ?_
  refine gf_X0_71 (z := zpg u) hx hb hts hin m71 hown hK hP rfl dX0_fixCanStand_3 ?_
  refine zS_z (As := [.int (iI v), .int (iI 1), .int (iI (zpg u))]) (rest := []) ⟨hx, hb, hml, hown, hts⟩ (PT) PT_blind PT_mv  (c_X0_inRange l g v 1 (zpg u) (by omega) (by omega) (by omega)) (va_cwS 3 hts gX0_fixCanStand_X0_inRange rfl rfl rfl (by decide +kernel) ⟨Nat.le_of_ble_eq_true rfl, Nat.le_of_ble_eq_true rfl⟩) rfl hl.1 rfl (Nat.le_of_ble_eq_true rfl) dX0_fixCanStand_6 ⟨Nat.zero_le _, Nat.zero_le _⟩ (fun c_1 => ?_) (fun c_1 => ?_)
  · exact zr_1 hx hb hr hlocks dX0_fixCanStand_9 (by omega)
  · exact zr_0 hx hb hr hlocks dX0_fixCanStand_9 (by omega)
set_option maxHeartbeats 4000000 in
set_option maxRecDepth 100000 in
theorem c_X0_isCoordinate (l : Launch) (g : GG) (v : Int) (hb_v : B32 v) : Met l yX0_isCoordinate wsX0_isCoordinate (k2_rm 1 22) (va_Pc [.int (iI v)] (fun U => PT U U.heap)) (vp_Si (fun r => (r = iI 1 ∧ (-200000000 ≤ v ∧ v ≤ 200000000)) ∨ (r = iI 0 ∧ ¬ (-200000000 ≤ v ∧ v ≤ 200000000)))) 0 0 (fun _ => False) := by
  refine Met.ofW (cc := cX0_isCoordinate) (maxL := 1) (ret := (some .boolean)) (by decide) rfl ?_
  intro pp ee s mm args below meth cc9 s₁ B hml hv
  obtain ⟨rfl, hPX⟩ := hv
  have hx := B.exec
  have hb := B.bytes
  have hr := B.returns
  have hts := atoms_spec (ws := wsX0_isCoordinate) B.pre
  have hown : s.vm.findClass RX0 = some mm.cls := findClass_of_methodNamed B.named
  have hlocks := B.notSynchronized
  have m132 : Cond.constant RX0 132 (-200000000) ∈ wsX0_isCoordinate := by decide +kernel
  have m133 : Cond.constant RX0 133 (200000000) ∈ wsX0_isCoordinate := by decide +kernel
  have hl := lv_entry ([.int (iI v)]) (n := 1) (Nat.le_of_ble_eq_true rfl)
  rw [lg_entry_eq]
  generalize (lg_sl ([.int (iI v)]) ++ List.replicate (1 - (lg_sl ([.int (iI v)])).length) Slot.unset).toArray = ls at hl ⊢
  have hl : lv_has ls 1 [(0, .int (iI v))] := hl
  refine lv_iload_n hx hb dX0_isCoordinate_0 rfl (lv_at hl 0 rfl) ?_
  refine lv_ldc (v := iI (-200000000)) hx hb hown (hts _ m132) dX0_isCoordinate_1 ?_
  refine lv_ldc (v := iI (200000000)) hx hb hown (hts _ m133) dX0_isCoordinate_3 ?_
  refine zS_z (As := [.int (iI v), .int (iI ((-200000000))), .int (iI 200000000)]) (rest := []) ⟨hx, hb, hml, hown, hts⟩ (PT) PT_blind PT_mv  (c_X0_inRange l g v ((-200000000)) 200000000 (by omega) (by omega) (by omega)) (va_cwS 3 hts gX0_isCoordinate_X0_inRange rfl rfl rfl (by decide +kernel) ⟨Nat.le_of_ble_eq_true rfl, Nat.le_of_ble_eq_true rfl⟩) rfl hl.1 rfl (Nat.le_of_ble_eq_true rfl) dX0_isCoordinate_5 ⟨Nat.zero_le _, Nat.zero_le _⟩ (fun c_1 => ?_) (fun c_1 => ?_)
  · exact zr_1 hx hb hr hlocks dX0_isCoordinate_8 (by omega)
  · exact zr_0 hx hb hr hlocks dX0_isCoordinate_8 (by omega)
set_option maxHeartbeats 4000000 in
set_option maxRecDepth 100000 in
theorem c_X0_fixCount (l : Launch) (g : GG) (u : ST) (hI : Inv u) : Met l yX0_fixCount wsX0_fixCount (k2_rm 0 0) (va_Pc [.ref (gX g 0)] (fun U => PY g u U U.heap)) (vp_Si (fun r => r = iI (sz (zfx u) 0 (zpg u + 1)))) 0 0 (fun _ => False) := by
  refine Met.ofW (cc := cX0_fixCount) (maxL := 3) (ret := (some .int)) (by decide) rfl ?_
  intro pp ee s mm args below meth cc9 s₁ B hml hv
  obtain ⟨rfl, hPX⟩ := hv
  obtain ⟨hP, hK⟩ := id hPX
  have hx := B.exec
  have hb := B.bytes
  have hr := B.returns
  have hts := atoms_spec (ws := wsX0_fixCount) B.pre
  have hown : s.vm.findClass RX0 = some mm.cls := findClass_of_methodNamed B.named
  have hlocks := B.notSynchronized
  have hin : ∀ w ∈ wsX00, w ∈ wsX0_fixCount := fun w h => List.mem_cons_of_mem _ (List.mem_append_right _ h)
  have m26 : Cond.fieldLink RX0 26 "TraverseBoard" "fixed" "[Z" ∈ wsX0_fixCount := by decide +kernel
  have m71 : Cond.fieldLink RX0 71 "TraverseBoard" "pegs" "I" ∈ wsX0_fixCount := by decide +kernel
  have hi_bl := iv_bl hI
  have hi_pg := iv_pg hI
  have hi_se := iv_se hI
  have hi_dr := iv_dr hI
  have hl := lv_entry ([.ref (gX g 0)]) (n := 3) (Nat.le_of_ble_eq_true rfl)
  rw [lg_entry_eq]
  generalize (lg_sl ([.ref (gX g 0)]) ++ List.replicate (3 - (lg_sl ([.ref (gX g 0)])).length) Slot.unset).toArray = ls at hl ⊢
  have hl : lv_has ls 3 [(0, .ref (gX g 0))] := hl
  refine z_iconst hx hb dX0_fixCount_0 ?_
  refine lv_istore_n (lv' := [(1, .int (iI 0)), (0, .ref (gX g 0))]) hx hb dX0_fixCount_1 rfl hl (by decide) rfl (fun ls hl => ?_)
  refine z_iconst hx hb dX0_fixCount_2 ?_
  refine lv_istore_n (lv' := [(2, .int (iI 0)), (1, .int (iI 0)), (0, .ref (gX g 0))]) hx hb dX0_fixCount_3 rfl hl (by decide) rfl (fun ls hl => ?_)
  refine z_loop2 (nL := 3) (fun x t => (0 ≤ t ∧ t ≤ zpg u + 1) ∧ (x = sz (zfx u) 0 t)) (fun x t => (zpg u + 1 - t).toNat) (fun x t => [(0, .ref (gX g 0)), (1, .int (iI x)), (2, .int (iI t))]) (fun x t ls hinv hl ih_4 => ?_) 0 0 ls ⟨(by omega), (by exact (sz_0 (Int.le_refl _)).symm)⟩ (lv_sub hl [2, 1, 0] rfl)
  have hinv : (0 ≤ t ∧ t ≤ zpg u + 1) ∧ (x = sz (zfx u) 0 t) := hinv
  obtain ⟨q1z, q3z⟩ := hinv
  have hl : lv_has ls 3 [(0, .ref (gX g 0)), (1, .int (iI x)), (2, .int (iI t))] := hl
  have hl9 := iv_fx hI t
  refine lv_iload_n hx hb dX0_fixCount_4 rfl (lv_at hl 2 rfl) ?_
  refine lv_aload_n hx hb dX0_fixCount_5 rfl (lv_at hl 0 rfl) ?_
  refine gf_X0_71 (z := zpg u) hx hb hts hin m71 hown hK hP rfl dX0_fixCount_6 ?_
  refine z_icmp_gt (tgt := 30) hx hb dX0_fixCount_9 (by decide) (by omega) (by omega) (fun c_1 => ?_) (fun c_1 => ?_)
  · refine lv_iload_n hx hb dX0_fixCount_30 rfl (lv_at hl 1 rfl) ?_
    exact zr_i hx hb hr hlocks dX0_fixCount_31 (by rw [q3z, show t = zpg u + 1 by omega])
  · refine lv_aload_n hx hb dX0_fixCount_12 rfl (lv_at hl 0 rfl) ?_
    refine gf_X0_26 hx hb hts hin m26 hown hK hP dX0_fixCount_13 ?_
    refine lv_iload_n hx hb dX0_fixCount_16 rfl (lv_at hl 2 rfl) ?_
    refine al_X0_6 hx hb hK hP ⟨by omega, by omega⟩ dX0_fixCount_17 ?_
    have hv_2 := iv_fx hI t
    refine z_if_eq (tgt := 24) hx hb dX0_fixCount_18 (by decide) (by omega) (fun c_3 => ?_) (fun c_3 => ?_)
    · refine z_iinc (k := 2) (lv' := [(2, .int (iI (t + 1))), (0, .ref (gX g 0)), (1, .int (iI x))]) hx hb dX0_fixCount_24 hl rfl (by decide) rfl (fun ls hl => ?_)
      refine lv_goto (tgt := 4) hx hb dX0_fixCount_27 (by decide) ?_
      exact ih_4 x (t + 1) ls ⟨(by omega), (by rw [sz_s q1z.1]; omega)⟩ (show (zpg u + 1 - (t + 1)).toNat < (zpg u + 1 - t).toNat by omega) (lv_sub hl [1, 2, 0] rfl)
    · refine z_iinc (k := 1) (lv' := [(1, .int (iI (x + 1))), (0, .ref (gX g 0)), (2, .int (iI t))]) hx hb dX0_fixCount_21 hl rfl (by decide) rfl (fun ls hl => ?_)
      refine z_iinc (k := 2) (lv' := [(2, .int (iI (t + 1))), (1, .int (iI (x + 1))), (0, .ref (gX g 0))]) hx hb dX0_fixCount_24 hl rfl (by decide) rfl (fun ls hl => ?_)
      refine lv_goto (tgt := 4) hx hb dX0_fixCount_27 (by decide) ?_
      exact ih_4 (x + 1) (t + 1) ls ⟨(by omega), (by rw [sz_s q1z.1]; omega)⟩ (show (zpg u + 1 - (t + 1)).toNat < (zpg u + 1 - t).toNat by omega) (lv_sub hl [2, 1, 0] rfl)
