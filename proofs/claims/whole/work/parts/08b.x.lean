/-! the class, by program (genx.py): X0_digitAllowed X0_speedEnd X0_errorPosition X0_put X0_putBehindLast X0_addFromBuffer X0_isPoint X0_isSpeed -/
set_option maxHeartbeats 4000000 in
set_option maxRecDepth 100000 in
theorem c_X0_digitAllowed (l : Launch) (g : GG) (u : ST) (a : Int) (t : Int) (hI : Inv u) (k0z : 0 ≤ a) (k1z : a ≤ t) (k2z : t < 12) (k3z : 0 ≤ num (zbu u) a t) (k4z : num (zbu u) a t ≤ 200) : Met l yX0_digitAllowed wsX0_digitAllowed (k2_rm 2 43) (va_Pc [.ref (gX g 0), .int (iI a), .int (iI t)] (fun U => PY g u U U.heap)) (vp_Si (fun r => (r = iI 1 ∧ ((48 ≤ zbu u t ∧ zbu u t ≤ 57) ∧ (t = a ∨ (¬ num (zbu u) a t = 0 ∧ 10 * num (zbu u) a t + zbu u t - 48 ≤ 200)))) ∨ (r = iI 0 ∧ ¬ ((48 ≤ zbu u t ∧ zbu u t ≤ 57) ∧ (t = a ∨ (¬ num (zbu u) a t = 0 ∧ 10 * num (zbu u) a t + zbu u t - 48 ≤ 200)))))) 0 0 (fun _ => False) := by
  refine Met.ofW (cc := cX0_digitAllowed) (maxL := 3) (ret := (some .boolean)) (by decide) rfl ?_
  intro pp ee s mm args below meth cc9 s₁ B hml hv
  obtain ⟨rfl, hPX⟩ := hv
  obtain ⟨hP, hK⟩ := id hPX
  have hx := B.exec
  have hb := B.bytes
  have hr := B.returns
  have hts := atoms_spec (ws := wsX0_digitAllowed) B.pre
  have hown : s.vm.findClass RX0 = some mm.cls := findClass_of_methodNamed B.named
  have hlocks := B.notSynchronized
  have hin : ∀ w ∈ wsX00, w ∈ wsX0_digitAllowed := fun w h => List.mem_cons_of_mem _ (List.mem_append_right _ h)
  have hi_bl := iv_bl hI
  have hi_pg := iv_pg hI
  have hi_se := iv_se hI
  have hi_dr := iv_dr hI
  have hn := num_s (f := zbu u) (a := a) (b := t) k1z
  have hbt := iv_bu hI t
  have hl := lv_entry ([.ref (gX g 0), .int (iI a), .int (iI t)]) (n := 3) (Nat.le_of_ble_eq_true rfl)
  rw [lg_entry_eq]
  generalize (lg_sl ([.ref (gX g 0), .int (iI a), .int (iI t)]) ++ List.replicate (3 - (lg_sl ([.ref (gX g 0), .int (iI a), .int (iI t)])).length) Slot.unset).toArray = ls at hl ⊢
  have hl : lv_has ls 3 [(0, .ref (gX g 0)), (1, .int (iI a)), (2, .int (iI t))] := hl
  refine lv_aload_n hx hb dX0_digitAllowed_0 rfl (lv_at hl 0 rfl) ?_
  refine lv_iload_n hx hb dX0_digitAllowed_1 rfl (lv_at hl 2 rfl) ?_
  refine z_iconst hx hb dX0_digitAllowed_2 ?_
  refine z_iadd hx hb dX0_digitAllowed_3 ?_
  refine zV_z (As := [.int (iI (t + 1))]) (rest := []) ⟨hx, hb, hml, hown, hts⟩ (PY g u) (PY_blind g u) (PY_mv hP hK) (rcX hK hP) (c_X0_digitEnds l g u (t + 1) hI (by omega) (by omega)) (cwV 1 hts gX0_digitAllowed_X0_digitEnds rfl rfl rfl (by decide +kernel) ⟨Nat.le_of_ble_eq_true rfl, Nat.le_of_ble_eq_true rfl⟩) rfl hl.1 rfl (Nat.le_of_ble_eq_true rfl) dX0_digitAllowed_4 ⟨Nat.zero_le _, Nat.zero_le _⟩ (fun cd => ?_) (fun cd => ?_)
  · rw [show t + 1 - 1 = t by omega] at cd
    refine z_if_ne (tgt := 12) hx hb dX0_digitAllowed_7 (by decide) ⟨by decide, by decide⟩ (fun c_2 => ?_) (fun c_2 => (absurd c_2 (by decide)))
    refine lv_iload_n hx hb dX0_digitAllowed_12 rfl (lv_at hl 2 rfl) ?_
    refine lv_iload_n hx hb dX0_digitAllowed_13 rfl (lv_at hl 1 rfl) ?_
    refine z_icmp_eq (tgt := 40) hx hb dX0_digitAllowed_14 (by decide) (by omega) (by omega) (fun c_3 => ?_) (fun c_3 => ?_)
    · refine z_iconst hx hb dX0_digitAllowed_40 ?_
      refine lv_goto (tgt := 45) hx hb dX0_digitAllowed_41 (by decide) ?_
      exact zr_1 hx hb hr hlocks dX0_digitAllowed_45 (by omega)
    · refine lv_aload_n hx hb dX0_digitAllowed_17 rfl (lv_at hl 0 rfl) ?_
      refine lv_iload_n hx hb dX0_digitAllowed_18 rfl (lv_at hl 1 rfl) ?_
      refine lv_iload_n hx hb dX0_digitAllowed_19 rfl (lv_at hl 2 rfl) ?_
      refine zV_i (As := [.int (iI a), .int (iI t)]) (rest := []) ⟨hx, hb, hml, hown, hts⟩ (PY g u) (PY_blind g u) (PY_mv hP hK) (rcX hK hP) (c_X0_number l g u a t hI (by omega) (by omega) (by omega)) (cwV 2 hts gX0_digitAllowed_X0_number rfl rfl rfl (by decide +kernel) ⟨Nat.le_of_ble_eq_true rfl, Nat.le_of_ble_eq_true rfl⟩) rfl hl.1 rfl (Nat.le_of_ble_eq_true rfl) dX0_digitAllowed_20 ⟨Nat.zero_le _, Nat.zero_le _⟩ ?_
      refine z_if_eq (tgt := 44) hx hb dX0_digitAllowed_23 (by decide) (by omega) (fun c_4 => ?_) (fun c_4 => ?_)
      · refine z_iconst hx hb dX0_digitAllowed_44 ?_
        exact zr_0 hx hb hr hlocks dX0_digitAllowed_45 (by omega)
      · refine lv_aload_n hx hb dX0_digitAllowed_26 rfl (lv_at hl 0 rfl) ?_
        refine lv_iload_n hx hb dX0_digitAllowed_27 rfl (lv_at hl 1 rfl) ?_
        refine lv_iload_n hx hb dX0_digitAllowed_28 rfl (lv_at hl 2 rfl) ?_
        refine z_iconst hx hb dX0_digitAllowed_29 ?_
        refine z_iadd hx hb dX0_digitAllowed_30 ?_
        refine zV_i (As := [.int (iI a), .int (iI (t + 1))]) (rest := []) ⟨hx, hb, hml, hown, hts⟩ (PY g u) (PY_blind g u) (PY_mv hP hK) (rcX hK hP) (c_X0_number l g u a (t + 1) hI (by omega) (by omega) (by omega)) (cwV 2 hts gX0_digitAllowed_X0_number rfl rfl rfl (by decide +kernel) ⟨Nat.le_of_ble_eq_true rfl, Nat.le_of_ble_eq_true rfl⟩) rfl hl.1 rfl (Nat.le_of_ble_eq_true rfl) dX0_digitAllowed_31 ⟨Nat.zero_le _, Nat.zero_le _⟩ ?_
        refine z_sipush hx hb dX0_digitAllowed_34 (by decide +kernel) ?_
        refine z_icmp_gt (tgt := 44) hx hb dX0_digitAllowed_37 (by decide) (by omega) ⟨by decide, by decide⟩ (fun c_5 => ?_) (fun c_5 => ?_)
        · refine z_iconst hx hb dX0_digitAllowed_44 ?_
          exact zr_0 hx hb hr hlocks dX0_digitAllowed_45 (by omega)
        · refine z_iconst hx hb dX0_digitAllowed_40 ?_
          refine lv_goto (tgt := 45) hx hb dX0_digitAllowed_41 (by decide) ?_
          exact zr_1 hx hb hr hlocks dX0_digitAllowed_45 (by omega)
  · rw [show t + 1 - 1 = t by omega] at cd
    refine z_if_ne (tgt := 12) hx hb dX0_digitAllowed_7 (by decide) ⟨by decide, by decide⟩ (fun c_6 => (absurd c_6 (by decide))) (fun c_6 => ?_)
    refine z_iconst hx hb dX0_digitAllowed_10 ?_
    exact zr_0 hx hb hr hlocks dX0_digitAllowed_11 (by omega)
set_option maxHeartbeats 4000000 in
set_option maxRecDepth 100000 in
theorem c_X0_speedEnd (l : Launch) (g : GG) (u : ST) (a : Int) (hI : Inv u) (k0z : 0 ≤ a) (k1z : a ≤ zbl u) : Met l yX0_speedEnd wsX0_speedEnd (k2_rm 3 65) (va_Pc [.ref (gX g 0), .int (iI a)] (fun U => PY g u U U.heap)) (vp_Si (fun r => r = iI (ds u a))) 0 0 (fun _ => False) := by
  refine Met.ofW (cc := cX0_speedEnd) (maxL := 3) (ret := (some .int)) (by decide) rfl ?_
  intro pp ee s mm args below meth cc9 s₁ B hml hv
  obtain ⟨rfl, hPX⟩ := hv
  obtain ⟨hP, hK⟩ := id hPX
  have hx := B.exec
  have hb := B.bytes
  have hr := B.returns
  have hts := atoms_spec (ws := wsX0_speedEnd) B.pre
  have hown : s.vm.findClass RX0 = some mm.cls := findClass_of_methodNamed B.named
  have hlocks := B.notSynchronized
  have hin : ∀ w ∈ wsX00, w ∈ wsX0_speedEnd := fun w h => List.mem_cons_of_mem _ (List.mem_append_right _ h)
  have m41 : Cond.fieldLink RX0 41 "TraverseBoard" "bufferLength" "I" ∈ wsX0_speedEnd := by decide +kernel
  have hi_bl := iv_bl hI
  have hi_pg := iv_pg hI
  have hi_se := iv_se hI
  have hi_dr := iv_dr hI
  have hl := lv_entry ([.ref (gX g 0), .int (iI a)]) (n := 3) (Nat.le_of_ble_eq_true rfl)
  rw [lg_entry_eq]
  generalize (lg_sl ([.ref (gX g 0), .int (iI a)]) ++ List.replicate (3 - (lg_sl ([.ref (gX g 0), .int (iI a)])).length) Slot.unset).toArray = ls at hl ⊢
  have hl : lv_has ls 3 [(0, .ref (gX g 0)), (1, .int (iI a))] := hl
  refine lv_iload_n hx hb dX0_speedEnd_0 rfl (lv_at hl 1 rfl) ?_
  refine lv_istore_n (lv' := [(2, .int (iI a)), (0, .ref (gX g 0)), (1, .int (iI a))]) hx hb dX0_speedEnd_1 rfl hl (by decide) rfl (fun ls hl => ?_)
  refine z_loop1 (nL := 3) (fun t => (a ≤ t) ∧ (t ≤ zbl u) ∧ (ds u a = dsn u a (12 - (t - a)).toNat t) ∧ (0 ≤ num (zbu u) a t ∧ num (zbu u) a t ≤ 200)) (fun t => (zbl u - t).toNat) (fun t => [(0, .ref (gX g 0)), (1, .int (iI a)), (2, .int (iI t))]) (fun t ls hinv hl ih_2 => ?_) a ls ⟨(by omega), (by omega), (by rw [Int.sub_self]; rfl), (by rw [num_0 (Int.le_refl _)]; decide)⟩ (lv_sub hl [1, 2, 0] rfl)
  have hinv : (a ≤ t) ∧ (t ≤ zbl u) ∧ (ds u a = dsn u a (12 - (t - a)).toNat t) ∧ (0 ≤ num (zbu u) a t ∧ num (zbu u) a t ≤ 200) := hinv
  obtain ⟨q1z, q2z, q3z, q4z⟩ := hinv
  have hl : lv_has ls 3 [(0, .ref (gX g 0)), (1, .int (iI a)), (2, .int (iI t))] := hl
  have hn := num_s (f := zbu u) (a := a) (b := t) q1z
  have hbt := iv_bu hI t
  have hz : t = a → num (zbu u) a t = 0 := fun h => num_0 (by omega)
  refine lv_iload_n hx hb dX0_speedEnd_2 rfl (lv_at hl 2 rfl) ?_
  refine lv_aload_n hx hb dX0_speedEnd_3 rfl (lv_at hl 0 rfl) ?_
  refine gf_X0_41 (z := zbl u) hx hb hts hin m41 hown hK hP rfl dX0_speedEnd_4 ?_
  refine z_icmp_ge (tgt := 25) hx hb dX0_speedEnd_7 (by decide) (by omega) (by omega) (fun c_1 => ?_) (fun c_1 => ?_)
  · refine lv_iload_n hx hb dX0_speedEnd_25 rfl (lv_at hl 2 rfl) ?_
    exact zr_i hx hb hr hlocks dX0_speedEnd_26 (by rw [q3z, dsn_stop (by omega)])
  · refine lv_aload_n hx hb dX0_speedEnd_10 rfl (lv_at hl 0 rfl) ?_
    refine lv_iload_n hx hb dX0_speedEnd_11 rfl (lv_at hl 1 rfl) ?_
    refine lv_iload_n hx hb dX0_speedEnd_12 rfl (lv_at hl 2 rfl) ?_
    refine zV_z (As := [.int (iI a), .int (iI t)]) (rest := []) ⟨hx, hb, hml, hown, hts⟩ (PY g u) (PY_blind g u) (PY_mv hP hK) (rcX hK hP) (c_X0_digitAllowed l g u a t hI (by omega) (by omega) (by omega) (by omega) (by omega)) (cwV 2 hts gX0_speedEnd_X0_digitAllowed rfl rfl rfl (by decide +kernel) ⟨Nat.le_of_ble_eq_true rfl, Nat.le_of_ble_eq_true rfl⟩) rfl hl.1 rfl (Nat.le_of_ble_eq_true rfl) dX0_speedEnd_13 ⟨Nat.zero_le _, Nat.zero_le _⟩ (fun cd => ?_) (fun cd => ?_)
    · refine z_if_eq (tgt := 25) hx hb dX0_speedEnd_16 (by decide) ⟨by decide, by decide⟩ (fun c_3 => (absurd c_3 (by decide))) (fun c_3 => ?_)
      refine z_iinc (k := 2) (lv' := [(2, .int (iI (t + 1))), (0, .ref (gX g 0)), (1, .int (iI a))]) hx hb dX0_speedEnd_19 hl rfl (by decide) rfl (fun ls hl => ?_)
      refine lv_goto (tgt := 2) hx hb dX0_speedEnd_22 (by decide) ?_
      exact ih_2 (t + 1) ls ⟨(by omega), (by omega), (by rw [q3z, show (12 - (t - a)).toNat = (12 - (t + 1 - a)).toNat + 1 by omega]; exact dsn_go ⟨by omega, cd⟩ _), (by omega)⟩ (show (zbl u - (t + 1)).toNat < (zbl u - t).toNat by omega) (lv_sub hl [1, 2, 0] rfl)
    · refine z_if_eq (tgt := 25) hx hb dX0_speedEnd_16 (by decide) ⟨by decide, by decide⟩ (fun c_4 => ?_) (fun c_4 => (absurd c_4 (by decide)))
      refine lv_iload_n hx hb dX0_speedEnd_25 rfl (lv_at hl 2 rfl) ?_
      exact zr_i hx hb hr hlocks dX0_speedEnd_26 (by rw [q3z, dsn_stop (by omega)])
set_option maxHeartbeats 4000000 in
set_option maxRecDepth 100000 in
theorem c_X0_errorPosition (l : Launch) (g : GG) (u : ST) (hI : Inv u) : Met l yX0_errorPosition wsX0_errorPosition (k2_rm 8 170) (va_Pc [.ref (gX g 0)] (fun U => PX g u U U.heap)) (vp_Sl (fun r => r = jI (ep u))) 0 0 (fun _ => False) := by
  refine Met.ofW (cc := cX0_errorPosition) (maxL := 2) (ret := (some .long)) (by decide) rfl ?_
  intro pp ee s mm args below meth cc9 s₁ B hml hv
  obtain ⟨rfl, hPX⟩ := hv
  obtain ⟨hP, hK, hZS⟩ := id hPX
  have hx := B.exec
  have hb := B.bytes
  have hr := B.returns
  have hts := atoms_spec (ws := wsX0_errorPosition) B.pre
  have hown : s.vm.findClass RX0 = some mm.cls := findClass_of_methodNamed B.named
  have hlocks := B.notSynchronized
  have hin : ∀ w ∈ wsX00, w ∈ wsX0_errorPosition := fun w h => List.mem_cons_of_mem _ (List.mem_append_right _ h)
  have hS0 : va_S nA s.heap s.heap [] := va_S.rf
  have hi_bl := iv_bl hI
  have hi_pg := iv_pg hI
  have hi_se := iv_se hI
  have hi_dr := iv_dr hI
  have hpb := pb_rng u
  have hag := ag_rng hI (pb u)
  have hds := ds_rng (u := u) (a := ag u (pb u)) hag.2.2
  have hl := lv_entry ([.ref (gX g 0)]) (n := 2) (Nat.le_of_ble_eq_true rfl)
  rw [lg_entry_eq]
  generalize (lg_sl ([.ref (gX g 0)]) ++ List.replicate (2 - (lg_sl ([.ref (gX g 0)])).length) Slot.unset).toArray = ls at hl ⊢
  have hl : lv_has ls 2 [(0, .ref (gX g 0))] := hl
  refine lv_aload_n hx hb dX0_errorPosition_0 rfl (lv_at hl 0 rfl) ?_
  refine lv_aload_n hx hb dX0_errorPosition_1 rfl (lv_at hl 0 rfl) ?_
  refine zV_i (As := []) (rest := [.ref (gX g 0)]) ⟨hx, hb, hml, hown, hts⟩ (PX g u) (PX_blind g u) (PX_mv hPX) (rcX hK hP) (c_X0_pointInBuffer l g u hI) (cwV 0 hts gX0_errorPosition_X0_pointInBuffer rfl rfl rfl (by decide +kernel) ⟨Nat.le_of_ble_eq_true rfl, Nat.le_of_ble_eq_true rfl⟩) rfl hl.1 rfl (Nat.le_of_ble_eq_true rfl) dX0_errorPosition_2 ⟨Nat.zero_le _, Nat.zero_le _⟩ ?_
  refine zV_i (As := [.int (iI (pb u))]) (rest := []) ⟨hx, hb, hml, hown, hts⟩ (PX g u) (PX_blind g u) (PX_mv hPX) (rcX hK hP) (c_X0_agreement l g u (pb u) hI (by omega) (by omega)) (cwV 1 hts gX0_errorPosition_X0_agreement rfl rfl rfl (by decide +kernel) ⟨Nat.le_of_ble_eq_true rfl, Nat.le_of_ble_eq_true rfl⟩) rfl hl.1 rfl (Nat.le_of_ble_eq_true rfl) dX0_errorPosition_5 ⟨Nat.zero_le _, Nat.zero_le _⟩ ?_
  refine lv_istore_n (lv' := [(1, .int (iI (ag u (pb u)))), (0, .ref (gX g 0))]) hx hb dX0_errorPosition_8 rfl hl (by decide) rfl (fun ls hl => ?_)
  refine lv_aload_n hx hb dX0_errorPosition_9 rfl (lv_at hl 1 rfl) ?_
  refine lv_iload_n hx hb dX0_errorPosition_10 rfl (lv_at hl 0 rfl) ?_
  refine zV_z (As := [.int (iI (ag u (pb u)))]) (rest := []) ⟨hx, hb, hml, hown, hts⟩ (PY g u) (PY_blind g u) (PY_mv hP hK) (rcX hK hP) (c_X0_blankEnds l g u (ag u (pb u)) hI (by omega) (by omega)) (cwV 1 hts gX0_errorPosition_X0_blankEnds rfl rfl rfl (by decide +kernel) ⟨Nat.le_of_ble_eq_true rfl, Nat.le_of_ble_eq_true rfl⟩) rfl hl.1 rfl (Nat.le_of_ble_eq_true rfl) dX0_errorPosition_11 ⟨Nat.zero_le _, Nat.zero_le _⟩ (fun c_1 => ?_) (fun c_1 => ?_)
  · refine z_if_eq (tgt := 26) hx hb dX0_errorPosition_14 (by decide) ⟨by decide, by decide⟩ (fun c_2 => (absurd c_2 (by decide))) (fun c_2 => ?_)
    refine lv_aload_n hx hb dX0_errorPosition_17 rfl (lv_at hl 1 rfl) ?_
    refine lv_iload_n hx hb dX0_errorPosition_18 rfl (lv_at hl 0 rfl) ?_
    refine zV_i (As := [.int (iI (ag u (pb u)))]) (rest := []) ⟨hx, hb, hml, hown, hts⟩ (PY g u) (PY_blind g u) (PY_mv hP hK) (rcX hK hP) (c_X0_speedEnd l g u (ag u (pb u)) hI (by omega) (by omega)) (cwV 1 hts gX0_errorPosition_X0_speedEnd rfl rfl rfl (by decide +kernel) ⟨Nat.le_of_ble_eq_true rfl, Nat.le_of_ble_eq_true rfl⟩) rfl hl.1 rfl (Nat.le_of_ble_eq_true rfl) dX0_errorPosition_19 ⟨Nat.zero_le _, Nat.zero_le _⟩ ?_
    refine z_i2l hx hb (by omega) dX0_errorPosition_22 ?_
    refine lv_goto (tgt := 28) hx hb dX0_errorPosition_23 (by decide) ?_
    exact zr_l hx hb hr hlocks dX0_errorPosition_28 (by unfold ep; split <;> first | (exfalso; omega) | rfl)
  · refine z_if_eq (tgt := 26) hx hb dX0_errorPosition_14 (by decide) ⟨by decide, by decide⟩ (fun c_3 => ?_) (fun c_3 => (absurd c_3 (by decide)))
    refine lv_iload_n hx hb dX0_errorPosition_26 rfl (lv_at hl 0 rfl) ?_
    refine z_i2l hx hb (by omega) dX0_errorPosition_27 ?_
    exact zr_l hx hb hr hlocks dX0_errorPosition_28 (by unfold ep; split <;> first | (exfalso; omega) | rfl)
set_option maxHeartbeats 4000000 in
set_option maxRecDepth 100000 in
theorem c_X0_put (l : Launch) (g : GG) (u : ST) (hg : gOk g) (k : Int) (p : Int) (q : Int) (k0z : 0 ≤ k ∧ k < 48) : Met l yX0_put wsX0_put (k2_rm 0 0) (va_Pc [.ref (gX g 0), .int (iI k), .int (iI p), .int (iI q)] (fun U => PY g u U U.heap)) (va_Qv (fun (_ : Unit) => True) (fun _ t => (fun H9 => va_P (gD g) vwCl (wX g (ulo (usp (upo u (zup (zpo u) k p)) (zup (zsp u) k q)) (zup (zlo u) k 0))) H9) t.heap) (aX g)) 0 0 (aX g) := by
  refine Met.ofW (cc := cX0_put) (maxL := 4) (ret := none) (by decide) rfl ?_
  intro pp ee s mm args below meth cc9 s₁ B hml hv
  obtain ⟨rfl, hPX⟩ := hv
  obtain ⟨hP, hK⟩ := id hPX
  have hx := B.exec
  have hb := B.bytes
  have hr := B.returns
  have hts := atoms_spec (ws := wsX0_put) B.pre
  have hown : s.vm.findClass RX0 = some mm.cls := findClass_of_methodNamed B.named
  have hlocks := B.notSynchronized
  have hin : ∀ w ∈ wsX00, w ∈ wsX0_put := fun w h => List.mem_cons_of_mem _ (List.mem_append_right _ h)
  have m13 : Cond.fieldLink RX0 13 "TraverseBoard" "points" "[I" ∈ wsX0_put := by decide +kernel
  have m16 : Cond.fieldLink RX0 16 "TraverseBoard" "speeds" "[I" ∈ wsX0_put := by decide +kernel
  have m22 : Cond.fieldLink RX0 22 "TraverseBoard" "lost" "[Z" ∈ wsX0_put := by decide +kernel
  have hS : va_S (aX g) s.heap s.heap [] := va_S.rf
  have hl := lv_entry ([.ref (gX g 0), .int (iI k), .int (iI p), .int (iI q)]) (n := 4) (Nat.le_of_ble_eq_true rfl)
  rw [lg_entry_eq]
  generalize (lg_sl ([.ref (gX g 0), .int (iI k), .int (iI p), .int (iI q)]) ++ List.replicate (4 - (lg_sl ([.ref (gX g 0), .int (iI k), .int (iI p), .int (iI q)])).length) Slot.unset).toArray = ls at hl ⊢
  have hl : lv_has ls 4 [(0, .ref (gX g 0)), (1, .int (iI k)), (2, .int (iI p)), (3, .int (iI q))] := hl
  refine lv_aload_n hx hb dX0_put_0 rfl (lv_at hl 0 rfl) ?_
  refine gf_X0_13 hx hb hts hin m13 hown hK hP dX0_put_1 ?_
  refine lv_iload_n hx hb dX0_put_4 rfl (lv_at hl 1 rfl) ?_
  refine lv_iload_n hx hb dX0_put_5 rfl (lv_at hl 2 rfl) ?_
  refine as_X0_2 hx hb hK hP (wX_D hg _) hS ⟨by omega, by omega⟩ dX0_put_6 (fun H locs hP hS => ?_)
  refine lv_aload_n hx hb dX0_put_7 rfl (lv_at hl 0 rfl) ?_
  refine gf_X0_16 hx hb hts hin m16 hown hK hP dX0_put_8 ?_
  refine lv_iload_n hx hb dX0_put_11 rfl (lv_at hl 1 rfl) ?_
  refine lv_iload_n hx hb dX0_put_12 rfl (lv_at hl 3 rfl) ?_
  refine as_X0_3 hx hb hK hP (wX_D hg _) hS ⟨by omega, by omega⟩ dX0_put_13 (fun H locs hP hS => ?_)
  refine lv_aload_n hx hb dX0_put_14 rfl (lv_at hl 0 rfl) ?_
  refine gf_X0_22 hx hb hts hin m22 hown hK hP dX0_put_15 ?_
  refine lv_iload_n hx hb dX0_put_18 rfl (lv_at hl 1 rfl) ?_
  refine z_iconst hx hb dX0_put_19 ?_
  refine as_X0_5 hx hb hK hP (wX_D hg _) hS ⟨by omega, by omega⟩ (by decide +kernel) dX0_put_20 (fun H locs hP hS => ?_)
  exact zw_v (Post := (fun H9 => va_P (gD g) vwCl (wX g (ulo (usp (upo u (zup (zpo u) k p)) (zup (zsp u) k q)) (zup (zlo u) k 0))) H9)) hx hb hr hlocks dX0_put_21 hS hP
set_option maxHeartbeats 4000000 in
set_option maxRecDepth 100000 in
theorem c_X0_putBehindLast (l : Launch) (g : GG) (u : ST) (hg : gOk g) (p : Int) (q : Int) (hI : Inv u) (k0z : zpg u < 48) (k1z : 0 ≤ p ∧ p ≤ 31) (k2z : 0 ≤ q ∧ q ≤ 200) : Met l yX0_putBehindLast wsX0_putBehindLast (k2_rm 1 23) (va_Pc [.ref (gX g 0), .int (iI p), .int (iI q)] (fun U => PY g u U U.heap)) (va_Qi (fun r (_ : Unit) => r = iI (zpg u)) (fun _ t => (fun H9 => va_P (gD g) vwCl (wX g (pgU u p q)) H9) t.heap) (aX g)) 0 0 (aX g) := by
  refine Met.ofW (cc := cX0_putBehindLast) (maxL := 4) (ret := (some .int)) (by decide) rfl ?_
  intro pp ee s mm args below meth cc9 s₁ B hml hv
  obtain ⟨rfl, hPX⟩ := hv
  obtain ⟨hP, hK⟩ := id hPX
  have hx := B.exec
  have hb := B.bytes
  have hr := B.returns
  have hts := atoms_spec (ws := wsX0_putBehindLast) B.pre
  have hown : s.vm.findClass RX0 = some mm.cls := findClass_of_methodNamed B.named
  have hlocks := B.notSynchronized
  have hin : ∀ w ∈ wsX00, w ∈ wsX0_putBehindLast := fun w h => List.mem_cons_of_mem _ (List.mem_append_right _ h)
  have m19 : Cond.fieldLink RX0 19 "TraverseBoard" "leeways" "[I" ∈ wsX0_putBehindLast := by decide +kernel
  have m71 : Cond.fieldLink RX0 71 "TraverseBoard" "pegs" "I" ∈ wsX0_putBehindLast := by decide +kernel
  have hS : va_S (aX g) s.heap s.heap [] := va_S.rf
  have hi_bl := iv_bl hI
  have hi_pg := iv_pg hI
  have hi_se := iv_se hI
  have hi_dr := iv_dr hI
  have hl := lv_entry ([.ref (gX g 0), .int (iI p), .int (iI q)]) (n := 4) (Nat.le_of_ble_eq_true rfl)
  rw [lg_entry_eq]
  generalize (lg_sl ([.ref (gX g 0), .int (iI p), .int (iI q)]) ++ List.replicate (4 - (lg_sl ([.ref (gX g 0), .int (iI p), .int (iI q)])).length) Slot.unset).toArray = ls at hl ⊢
  have hl : lv_has ls 4 [(0, .ref (gX g 0)), (1, .int (iI p)), (2, .int (iI q))] := hl
  refine lv_aload_n hx hb dX0_putBehindLast_0 rfl (lv_at hl 0 rfl) ?_
  refine gf_X0_71 (z := zpg u) hx hb hts hin m71 hown hK hP rfl dX0_putBehindLast_1 ?_
  refine lv_istore_n (lv' := [(3, .int (iI (zpg u))), (0, .ref (gX g 0)), (1, .int (iI p)), (2, .int (iI q))]) hx hb dX0_putBehindLast_4 rfl hl (by decide) rfl (fun ls hl => ?_)
  refine lv_aload_n hx hb dX0_putBehindLast_5 rfl (lv_at hl 1 rfl) ?_
  refine lv_dup hx hb dX0_putBehindLast_6 rfl ?_
  refine gf_X0_71 (z := zpg u) hx hb hts hin m71 hown hK hP rfl dX0_putBehindLast_7 ?_
  refine z_iconst hx hb dX0_putBehindLast_10 ?_
  refine z_iadd hx hb dX0_putBehindLast_11 ?_
  refine pf_X0_71 hx hb hts hin m71 hown hK hP (wX_D hg _) hS dX0_putBehindLast_12 (fun H locs hP hS => ?_)
  refine lv_aload_n hx hb dX0_putBehindLast_15 rfl (lv_at hl 1 rfl) ?_
  refine lv_iload_n hx hb dX0_putBehindLast_16 rfl (lv_at hl 0 rfl) ?_
  refine lv_iload_n hx hb dX0_putBehindLast_17 rfl (lv_at hl 2 rfl) ?_
  refine lv_iload_n hx hb dX0_putBehindLast_18 rfl (lv_at hl 3 rfl) ?_
  refine zVw_v (As := [.int (iI (zpg u)), .int (iI p), .int (iI q)]) (rest := []) ⟨hx, hb, hml, hown, hts⟩ (PY g (upg u ((zpg u) + 1))) (PY_blind g (upg u ((zpg u) + 1))) (PY_mv hP hK) (rcX hK hP) (c_X0_put l g ((upg u ((zpg u) + 1))) hg (zpg u) p q (by show 0 ≤ zpg u ∧ zpg u < 48; omega)) (cwV 3 hts gX0_putBehindLast_X0_put rfl rfl rfl (by decide +kernel) ⟨Nat.le_of_ble_eq_true rfl, Nat.le_of_ble_eq_true rfl⟩) rfl hl.1 rfl (Nat.le_of_ble_eq_true rfl) dX0_putBehindLast_19 ⟨Nat.zero_le _, Nat.zero_le _⟩ hS (fun _ h => h) (fun H locs hP hH1 hH2 hS => ?_)
  refine lv_aload_n hx hb dX0_putBehindLast_22 rfl (lv_at hl 1 rfl) ?_
  refine gf_X0_19 hx hb hts hin m19 hown hK hP dX0_putBehindLast_23 ?_
  refine lv_iload_n hx hb dX0_putBehindLast_26 rfl (lv_at hl 0 rfl) ?_
  refine z_iconst hx hb dX0_putBehindLast_27 ?_
  refine as_X0_4 hx hb hK hP (wX_D hg _) hS ⟨by omega, by omega⟩ dX0_putBehindLast_28 (fun H locs hP hS => ?_)
  refine lv_iload_n hx hb dX0_putBehindLast_29 rfl (lv_at hl 0 rfl) ?_
  exact zw_i (Post := (fun H9 => va_P (gD g) vwCl (wX g (pgU u p q)) H9)) hx hb hr hlocks dX0_putBehindLast_30 hS (by first | rfl | omega) hP
set_option maxHeartbeats 4000000 in
set_option maxRecDepth 100000 in
theorem c_X0_addFromBuffer (l : Launch) (g : GG) (u : ST) (hg : gOk g) (hI : Inv u) : Met l yX0_addFromBuffer wsX0_addFromBuffer (k2_rm 9 191) (va_Pc [.ref (gX g 0)] (fun U => PX g u U U.heap)) (va_Ql (fun r (_ : Unit) => r = jI (afR u)) (fun _ t => (fun H9 => va_P (gD g) vwCl (wX g (afU u)) H9) t.heap) (aX g)) 0 0 (aX g) := by
  refine Met.ofW (cc := cX0_addFromBuffer) (maxL := 3) (ret := (some .long)) (by decide) rfl ?_
  intro pp ee s mm args below meth cc9 s₁ B hml hv
  obtain ⟨rfl, hPX⟩ := hv
  obtain ⟨hP, hK, hZS⟩ := id hPX
  have hx := B.exec
  have hb := B.bytes
  have hr := B.returns
  have hts := atoms_spec (ws := wsX0_addFromBuffer) B.pre
  have hown : s.vm.findClass RX0 = some mm.cls := findClass_of_methodNamed B.named
  have hlocks := B.notSynchronized
  have hin : ∀ w ∈ wsX00, w ∈ wsX0_addFromBuffer := fun w h => List.mem_cons_of_mem _ (List.mem_append_right _ h)
  have m41 : Cond.fieldLink RX0 41 "TraverseBoard" "bufferLength" "I" ∈ wsX0_addFromBuffer := by decide +kernel
  have m45 : Cond.constantLong RX0 45 (-9000000000000000004) ∈ wsX0_addFromBuffer := by decide +kernel
  have m69 : Cond.constantLong RX0 69 (-9000000000000000005) ∈ wsX0_addFromBuffer := by decide +kernel
  have m71 : Cond.fieldLink RX0 71 "TraverseBoard" "pegs" "I" ∈ wsX0_addFromBuffer := by decide +kernel
  have hS : va_S (aX g) s.heap s.heap [] := va_S.rf
  have hi_bl := iv_bl hI
  have hi_pg := iv_pg hI
  have hi_se := iv_se hI
  have hi_dr := iv_dr hI
  have hpb := pb_rng u
  have hag := ag_rng hI (pb u)
  have hep := ep_rng hI
  have hnum := af_num hI
  have hl := lv_entry ([.ref (gX g 0)]) (n := 3) (Nat.le_of_ble_eq_true rfl)
  rw [lg_entry_eq]
  generalize (lg_sl ([.ref (gX g 0)]) ++ List.replicate (3 - (lg_sl ([.ref (gX g 0)])).length) Slot.unset).toArray = ls at hl ⊢
  have hl : lv_has ls 3 [(0, .ref (gX g 0))] := hl
  refine lv_aload_n hx hb dX0_addFromBuffer_0 rfl (lv_at hl 0 rfl) ?_
  refine zV_l (As := []) (rest := []) ⟨hx, hb, hml, hown, hts⟩ (PX g u) (PX_blind g u) (PX_mv hPX) (rcX hK hP) (c_X0_errorPosition l g u hI) (cwV 0 hts gX0_addFromBuffer_X0_errorPosition rfl rfl rfl (by decide +kernel) ⟨Nat.le_of_ble_eq_true rfl, Nat.le_of_ble_eq_true rfl⟩) rfl hl.1 rfl (Nat.le_of_ble_eq_true rfl) dX0_addFromBuffer_1 ⟨Nat.zero_le _, Nat.zero_le _⟩ ?_
  refine lv_aload_n hx hb dX0_addFromBuffer_4 rfl (lv_at hl 0 rfl) ?_
  refine gf_X0_41 (z := zbl u) hx hb hts hin m41 hown hK hP rfl dX0_addFromBuffer_5 ?_
  refine z_i2l hx hb (by omega) dX0_addFromBuffer_8 ?_
  refine z_lcmp_ne (tgt := 24) hx hb dX0_addFromBuffer_9 dX0_addFromBuffer_10 (by decide) (by omega) (by omega) (fun c_1 => ?_) (fun c_1 => ?_)
  · refine lv_ldc2 (v := jI (-9000000000000000005)) hx hb hown (hts _ m69) dX0_addFromBuffer_24 ?_
    exact zw_l (Post := (fun H9 => va_P (gD g) vwCl (wX g (afU u)) H9)) hx hb hr hlocks dX0_addFromBuffer_27 hS (by unfold afR eIP eFU; (repeat' split) <;> first | rfl | omega) (by unfold afU; split <;> first | exact hP | (exfalso; omega))
  · refine lv_aload_n hx hb dX0_addFromBuffer_13 rfl (lv_at hl 0 rfl) ?_
    refine lv_aload_n hx hb dX0_addFromBuffer_14 rfl (lv_at hl 0 rfl) ?_
    refine gf_X0_41 (z := zbl u) hx hb hts hin m41 hown hK hP rfl dX0_addFromBuffer_15 ?_
    refine zV_z (As := [.int (iI (zbl u))]) (rest := []) ⟨hx, hb, hml, hown, hts⟩ (PY g u) (PY_blind g u) (PY_mv hP hK) (rcX hK hP) (c_X0_digitEnds l g u (zbl u) hI (by omega) (by omega)) (cwV 1 hts gX0_addFromBuffer_X0_digitEnds rfl rfl rfl (by decide +kernel) ⟨Nat.le_of_ble_eq_true rfl, Nat.le_of_ble_eq_true rfl⟩) rfl hl.1 rfl (Nat.le_of_ble_eq_true rfl) dX0_addFromBuffer_18 ⟨Nat.zero_le _, Nat.zero_le _⟩ (fun c_2 => ?_) (fun c_2 => ?_)
    · refine z_if_ne (tgt := 28) hx hb dX0_addFromBuffer_21 (by decide) ⟨by decide, by decide⟩ (fun c_3 => ?_) (fun c_3 => (absurd c_3 (by decide)))
      refine lv_aload_n hx hb dX0_addFromBuffer_28 rfl (lv_at hl 0 rfl) ?_
      refine gf_X0_71 (z := zpg u) hx hb hts hin m71 hown hK hP rfl dX0_addFromBuffer_29 ?_
      refine z_bipush hx hb dX0_addFromBuffer_32 (by decide +kernel) ?_
      refine z_icmp_lt (tgt := 41) hx hb dX0_addFromBuffer_34 (by decide) (by omega) ⟨by decide, by decide⟩ (fun c_4 => ?_) (fun c_4 => ?_)
      · refine lv_aload_n hx hb dX0_addFromBuffer_41 rfl (lv_at hl 0 rfl) ?_
        refine zV_i (As := []) (rest := []) ⟨hx, hb, hml, hown, hts⟩ (PX g u) (PX_blind g u) (PX_mv hPX) (rcX hK hP) (c_X0_pointInBuffer l g u hI) (cwV 0 hts gX0_addFromBuffer_X0_pointInBuffer rfl rfl rfl (by decide +kernel) ⟨Nat.le_of_ble_eq_true rfl, Nat.le_of_ble_eq_true rfl⟩) rfl hl.1 rfl (Nat.le_of_ble_eq_true rfl) dX0_addFromBuffer_42 ⟨Nat.zero_le _, Nat.zero_le _⟩ ?_
        refine lv_istore_n (lv' := [(1, .int (iI (pb u))), (0, .ref (gX g 0))]) hx hb dX0_addFromBuffer_45 rfl hl (by decide) rfl (fun ls hl => ?_)
        refine lv_aload_n hx hb dX0_addFromBuffer_46 rfl (lv_at hl 1 rfl) ?_
        refine lv_aload_n hx hb dX0_addFromBuffer_47 rfl (lv_at hl 1 rfl) ?_
        refine lv_iload_n hx hb dX0_addFromBuffer_48 rfl (lv_at hl 0 rfl) ?_
        refine zV_i (As := [.int (iI (pb u))]) (rest := [.ref (gX g 0)]) ⟨hx, hb, hml, hown, hts⟩ (PX g u) (PX_blind g u) (PX_mv hPX) (rcX hK hP) (c_X0_agreement l g u (pb u) hI (by omega) (by omega)) (cwV 1 hts gX0_addFromBuffer_X0_agreement rfl rfl rfl (by decide +kernel) ⟨Nat.le_of_ble_eq_true rfl, Nat.le_of_ble_eq_true rfl⟩) rfl hl.1 rfl (Nat.le_of_ble_eq_true rfl) dX0_addFromBuffer_49 ⟨Nat.zero_le _, Nat.zero_le _⟩ ?_
        refine lv_aload_n hx hb dX0_addFromBuffer_52 rfl (lv_at hl 1 rfl) ?_
        refine gf_X0_41 (z := zbl u) hx hb hts hin m41 hown hK hP rfl dX0_addFromBuffer_53 ?_
        refine zV_i (As := [.int (iI (ag u (pb u))), .int (iI (zbl u))]) (rest := []) ⟨hx, hb, hml, hown, hts⟩ (PY g u) (PY_blind g u) (PY_mv hP hK) (rcX hK hP) (c_X0_number l g u (ag u (pb u)) (zbl u) hI (by omega) (by omega) (by omega)) (cwV 2 hts gX0_addFromBuffer_X0_number rfl rfl rfl (by decide +kernel) ⟨Nat.le_of_ble_eq_true rfl, Nat.le_of_ble_eq_true rfl⟩) rfl hl.1 rfl (Nat.le_of_ble_eq_true rfl) dX0_addFromBuffer_56 ⟨Nat.zero_le _, Nat.zero_le _⟩ ?_
        refine lv_istore_n (lv' := [(2, .int (iI (num (zbu u) (ag u (pb u)) (zbl u)))), (1, .int (iI (pb u))), (0, .ref (gX g 0))]) hx hb dX0_addFromBuffer_59 rfl hl (by decide) rfl (fun ls hl => ?_)
        refine lv_aload_n hx hb dX0_addFromBuffer_60 rfl (lv_at hl 2 rfl) ?_
        refine z_iconst hx hb dX0_addFromBuffer_61 ?_
        refine pf_X0_41 hx hb hts hin m41 hown hK hP (wX_D hg _) hS dX0_addFromBuffer_62 (fun H locs hP hS => ?_)
        refine lv_aload_n hx hb dX0_addFromBuffer_65 rfl (lv_at hl 2 rfl) ?_
        refine lv_iload_n hx hb dX0_addFromBuffer_66 rfl (lv_at hl 1 rfl) ?_
        refine lv_iload_n hx hb dX0_addFromBuffer_67 rfl (lv_at hl 0 rfl) ?_
        refine zVw_i (As := [.int (iI (pb u)), .int (iI (num (zbu u) (ag u (pb u)) (zbl u)))]) (rest := []) ⟨hx, hb, hml, hown, hts⟩ (PY g (ubl u 0)) (PY_blind g (ubl u 0)) (PY_mv hP hK) (rcX hK hP) (c_X0_putBehindLast l g ((ubl u 0)) hg (pb u) (num (zbu u) (ag u (pb u)) (zbl u)) (inv_cl hI) (by show zpg u < 48; omega) (by omega) (hnum ⟨by omega, by omega⟩)) (cwV 2 hts gX0_addFromBuffer_X0_putBehindLast rfl rfl rfl (by decide +kernel) ⟨Nat.le_of_ble_eq_true rfl, Nat.le_of_ble_eq_true rfl⟩) rfl hl.1 rfl (Nat.le_of_ble_eq_true rfl) dX0_addFromBuffer_68 ⟨Nat.zero_le _, Nat.zero_le _⟩ hS (fun _ h => h) (fun H locs hP hH1 hH2 hS => ?_)
        refine z_i2l hx hb (by show B32 (zpg u); omega) dX0_addFromBuffer_71 ?_
        exact zw_l (Post := (fun H9 => va_P (gD g) vwCl (wX g (afU u)) H9)) hx hb hr hlocks dX0_addFromBuffer_72 hS (by unfold afR eIP eFU; (repeat' split) <;> first | rfl | omega) (by unfold afU; split <;> first | exact hP | (exfalso; omega))
      · refine lv_ldc2 (v := jI (-9000000000000000004)) hx hb hown (hts _ m45) dX0_addFromBuffer_37 ?_
        exact zw_l (Post := (fun H9 => va_P (gD g) vwCl (wX g (afU u)) H9)) hx hb hr hlocks dX0_addFromBuffer_40 hS (by unfold afR eIP eFU; (repeat' split) <;> first | rfl | omega) (by unfold afU; split <;> first | exact hP | (exfalso; omega))
    · refine z_if_ne (tgt := 28) hx hb dX0_addFromBuffer_21 (by decide) ⟨by decide, by decide⟩ (fun c_5 => (absurd c_5 (by decide))) (fun c_5 => ?_)
      refine lv_ldc2 (v := jI (-9000000000000000005)) hx hb hown (hts _ m69) dX0_addFromBuffer_24 ?_
      exact zw_l (Post := (fun H9 => va_P (gD g) vwCl (wX g (afU u)) H9)) hx hb hr hlocks dX0_addFromBuffer_27 hS (by unfold afR eIP eFU; (repeat' split) <;> first | rfl | omega) (by unfold afU; split <;> first | exact hP | (exfalso; omega))
set_option maxHeartbeats 4000000 in
set_option maxRecDepth 100000 in
theorem c_X0_isPoint (l : Launch) (g : GG) (v : Int) (hb_v : B32 v) : Met l yX0_isPoint wsX0_isPoint (k2_rm 1 22) (va_Pc [.int (iI v)] (fun U => PT U U.heap)) (vp_Si (fun r => (r = iI 1 ∧ (0 ≤ v ∧ v ≤ 31)) ∨ (r = iI 0 ∧ ¬ (0 ≤ v ∧ v ≤ 31)))) 0 0 (fun _ => False) := by
  refine Met.ofW (cc := cX0_isPoint) (maxL := 1) (ret := (some .boolean)) (by decide) rfl ?_
  intro pp ee s mm args below meth cc9 s₁ B hml hv
  obtain ⟨rfl, hPX⟩ := hv
  have hx := B.exec
  have hb := B.bytes
  have hr := B.returns
  have hts := atoms_spec (ws := wsX0_isPoint) B.pre
  have hown : s.vm.findClass RX0 = some mm.cls := findClass_of_methodNamed B.named
  have hlocks := B.notSynchronized
  have hl := lv_entry ([.int (iI v)]) (n := 1) (Nat.le_of_ble_eq_true rfl)
  rw [lg_entry_eq]
  generalize (lg_sl ([.int (iI v)]) ++ List.replicate (1 - (lg_sl ([.int (iI v)])).length) Slot.unset).toArray = ls at hl ⊢
  have hl : lv_has ls 1 [(0, .int (iI v))] := hl
  refine lv_iload_n hx hb dX0_isPoint_0 rfl (lv_at hl 0 rfl) ?_
  refine z_iconst hx hb dX0_isPoint_1 ?_
  refine z_bipush hx hb dX0_isPoint_2 (by decide +kernel) ?_
  refine zS_z (As := [.int (iI v), .int (iI 0), .int (iI 31)]) (rest := []) ⟨hx, hb, hml, hown, hts⟩ (PT) PT_blind PT_mv  (c_X0_inRange l g v 0 31 (by omega) (by omega) (by omega)) (va_cwS 3 hts gX0_isPoint_X0_inRange rfl rfl rfl (by decide +kernel) ⟨Nat.le_of_ble_eq_true rfl, Nat.le_of_ble_eq_true rfl⟩) rfl hl.1 rfl (Nat.le_of_ble_eq_true rfl) dX0_isPoint_4 ⟨Nat.zero_le _, Nat.zero_le _⟩ (fun c_1 => ?_) (fun c_1 => ?_)
  · exact zr_1 hx hb hr hlocks dX0_isPoint_7 (by omega)
  · exact zr_0 hx hb hr hlocks dX0_isPoint_7 (by omega)
set_option maxHeartbeats 4000000 in
set_option maxRecDepth 100000 in
theorem c_X0_isSpeed (l : Launch) (g : GG) (v : Int) (hb_v : B32 v) : Met l yX0_isSpeed wsX0_isSpeed (k2_rm 1 22) (va_Pc [.int (iI v)] (fun U => PT U U.heap)) (vp_Si (fun r => (r = iI 1 ∧ (0 ≤ v ∧ v ≤ 200)) ∨ (r = iI 0 ∧ ¬ (0 ≤ v ∧ v ≤ 200)))) 0 0 (fun _ => False) := by
  refine Met.ofW (cc := cX0_isSpeed) (maxL := 1) (ret := (some .boolean)) (by decide) rfl ?_
  intro pp ee s mm args below meth cc9 s₁ B hml hv
  obtain ⟨rfl, hPX⟩ := hv
  have hx := B.exec
  have hb := B.bytes
  have hr := B.returns
  have hts := atoms_spec (ws := wsX0_isSpeed) B.pre
  have hown : s.vm.findClass RX0 = some mm.cls := findClass_of_methodNamed B.named
  have hlocks := B.notSynchronized
  have hl := lv_entry ([.int (iI v)]) (n := 1) (Nat.le_of_ble_eq_true rfl)
  rw [lg_entry_eq]
  generalize (lg_sl ([.int (iI v)]) ++ List.replicate (1 - (lg_sl ([.int (iI v)])).length) Slot.unset).toArray = ls at hl ⊢
  have hl : lv_has ls 1 [(0, .int (iI v))] := hl
  refine lv_iload_n hx hb dX0_isSpeed_0 rfl (lv_at hl 0 rfl) ?_
  refine z_iconst hx hb dX0_isSpeed_1 ?_
  refine z_sipush hx hb dX0_isSpeed_2 (by decide +kernel) ?_
  refine zS_z (As := [.int (iI v), .int (iI 0), .int (iI 200)]) (rest := []) ⟨hx, hb, hml, hown, hts⟩ (PT) PT_blind PT_mv  (c_X0_inRange l g v 0 200 (by omega) (by omega) (by omega)) (va_cwS 3 hts gX0_isSpeed_X0_inRange rfl rfl rfl (by decide +kernel) ⟨Nat.le_of_ble_eq_true rfl, Nat.le_of_ble_eq_true rfl⟩) rfl hl.1 rfl (Nat.le_of_ble_eq_true rfl) dX0_isSpeed_5 ⟨Nat.zero_le _, Nat.zero_le _⟩ (fun c_1 => ?_) (fun c_1 => ?_)
  · exact zr_1 hx hb hr hlocks dX0_isSpeed_8 (by omega)
  · exact zr_0 hx hb hr hlocks dX0_isSpeed_8 (by omega)
