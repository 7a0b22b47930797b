/-! the class, by program (genx.py): X0_squares X0_root X0_distance X0_advance X0_nearestPoint X0_bearing X0_miss X0_likeliest -/
set_option maxHeartbeats 4000000 in
set_option maxRecDepth 100000 in
theorem c_X0_squares (l : Launch) (g : GG) (n : Int) (e9z : Int) : Met l yX0_squares wsX0_squares (k2_rm 0 0) (va_Pc [.long (jI n), .long (jI e9z)] (fun U => PT U U.heap)) (vp_Sl (fun r => r = jI (n * n + e9z * e9z))) 0 0 (fun _ => False) := by
  refine Met.ofW (cc := cX0_squares) (maxL := 4) (ret := (some .long)) (by decide) rfl ?_
  intro pp ee s mm args below meth cc9 s₁ B hml hv
  obtain ⟨rfl, hPX⟩ := hv
  have hx := B.exec
  have hb := B.bytes
  have hr := B.returns
  have hts := atoms_spec (ws := wsX0_squares) B.pre
  have hown : s.vm.findClass RX0 = some mm.cls := findClass_of_methodNamed B.named
  have hlocks := B.notSynchronized
  have hl := lv_entry ([.long (jI n), .long (jI e9z)]) (n := 4) (Nat.le_of_ble_eq_true rfl)
  rw [lg_entry_eq]
  generalize (lg_sl ([.long (jI n), .long (jI e9z)]) ++ List.replicate (4 - (lg_sl ([.long (jI n), .long (jI e9z)])).length) Slot.unset).toArray = ls at hl ⊢
  have hl : lv_has ls 4 [(0, .long (jI n)), (2, .long (jI e9z))] := hl
  refine lv_lload_n hx hb dX0_squares_0 rfl (lv_at hl 0 rfl) ?_
  refine lv_lload_n hx hb dX0_squares_1 rfl (lv_at hl 0 rfl) ?_
  refine z_lmul hx hb dX0_squares_2 ?_
  refine lv_lload_n hx hb dX0_squares_3 rfl (lv_at hl 1 rfl) ?_
  refine lv_lload_n hx hb dX0_squares_4 rfl (lv_at hl 1 rfl) ?_
  refine z_lmul hx hb dX0_squares_5 ?_
  refine z_ladd hx hb dX0_squares_6 ?_
  exact zr_l hx hb hr hlocks dX0_squares_7 (by first | rfl | omega)
set_option maxHeartbeats 4000000 in
set_option maxRecDepth 100000 in
theorem c_X0_root (l : Launch) (g : GG) (q : Int) (hq : 0 ≤ q ∧ q < 4611686018427387904) : Met l yX0_root wsX0_root (k2_rm 0 0) (va_Pc [.long (jI q)] (fun U => PT U U.heap)) (vp_Sl (fun r => r = jI (isq q))) 0 0 (fun _ => False) := by
  refine Met.ofW (cc := cX0_root) (maxL := 7) (ret := (some .long)) (by decide) rfl ?_
  intro pp ee s mm args below meth cc9 s₁ B hml hv
  obtain ⟨rfl, hPX⟩ := hv
  have hx := B.exec
  have hb := B.bytes
  have hr := B.returns
  have hts := atoms_spec (ws := wsX0_root) B.pre
  have hown : s.vm.findClass RX0 = some mm.cls := findClass_of_methodNamed B.named
  have hlocks := B.notSynchronized
  have hl := lv_entry ([.long (jI q)]) (n := 7) (Nat.le_of_ble_eq_true rfl)
  rw [lg_entry_eq]
  generalize (lg_sl ([.long (jI q)]) ++ List.replicate (7 - (lg_sl ([.long (jI q)])).length) Slot.unset).toArray = ls at hl ⊢
  have hl : lv_has ls 7 [(0, .long (jI q))] := hl
  refine z_lconst (z := 0) hx hb dX0_root_0 rfl ?_
  refine lv_lstore_n (lv' := [(2, .long (jI 0)), (0, .long (jI q))]) hx hb dX0_root_1 rfl hl (by decide) rfl (fun ls hl => ?_)
  refine z_bipush hx hb dX0_root_2 (by decide +kernel) ?_
  refine lv_istore (lv' := [(4, .int (iI 30)), (2, .long (jI 0)), (0, .long (jI q))]) hx hb dX0_root_4 hl (by decide) rfl (fun ls hl => ?_)
  refine z_loop2 (nL := 7) (fun r t => (-1 ≤ t ∧ t ≤ 30) ∧ (r = isn q (30 - t).toNat)) (fun r t => (t + 1).toNat) (fun r t => [(0, .long (jI q)), (2, .long (jI r)), (4, .int (iI t))]) (fun r t ls hinv hl ih_6 => ?_) 0 30 ls ⟨(by omega), (by rfl)⟩ (lv_sub hl [2, 1, 0] rfl)
  have hinv : (-1 ≤ t ∧ t ≤ 30) ∧ (r = isn q (30 - t).toNat) := hinv
  obtain ⟨q1z, q3z⟩ := hinv
  have hl : lv_has ls 7 [(0, .long (jI q)), (2, .long (jI r)), (4, .int (iI t))] := hl
  have hok := isn_ok hq (30 - t).toNat (by omega)
  rw [← q3z] at hok
  refine lv_iload hx hb dX0_root_6 (lv_at hl 2 rfl) ?_
  refine z_if_lt (tgt := 38) hx hb dX0_root_8 (by decide) (by omega) (fun c_1 => ?_) (fun c_1 => ?_)
  · refine lv_lload_n hx hb dX0_root_38 rfl (lv_at hl 1 rfl) ?_
    exact zr_l hx hb hr hlocks dX0_root_39 (by rw [q3z, show t = -1 by omega]; rfl)
  · have hw := pow_rng (show 0 ≤ t ∧ t ≤ 30 by omega)
    have he9 : (2 : Int) ^ (31 - (30 - t).toNat) = 2 ^ t.toNat + 2 ^ t.toNat := by rw [show 31 - (30 - t).toNat = t.toNat + 1 by omega, Int.pow_succ]; omega
    have htt := sq_rng (a := r + 2 ^ t.toNat) (A := 2147483648) (by omega)
    refine lv_lload_n hx hb dX0_root_11 rfl (lv_at hl 1 rfl) ?_
    refine z_lconst (z := 1) hx hb dX0_root_12 rfl ?_
    refine lv_iload hx hb dX0_root_13 (lv_at hl 2 rfl) ?_
    refine z_lshl1 hx hb (by omega) dX0_root_15 ?_
    refine z_ladd hx hb dX0_root_16 ?_
    refine lv_lstore (lv' := [(5, .long (jI (r + (2 ^ Int.toNat t)))), (0, .long (jI q)), (2, .long (jI r)), (4, .int (iI t))]) hx hb dX0_root_17 hl (by decide) rfl (fun ls hl => ?_)
    refine lv_lload hx hb dX0_root_19 (lv_at hl 0 rfl) ?_
    refine lv_lload hx hb dX0_root_21 (lv_at hl 0 rfl) ?_
    refine z_lmul hx hb dX0_root_23 ?_
    refine lv_lload_n hx hb dX0_root_24 rfl (lv_at hl 1 rfl) ?_
    refine z_lcmp_gt (tgt := 32) hx hb dX0_root_25 dX0_root_26 (by decide) (by omega) (by omega) (fun c_2 => ?_) (fun c_2 => ?_)
    · refine z_iinc (k := 3) (lv' := [(4, .int (iI (t + (-1)))), (5, .long (jI (r + (2 ^ Int.toNat t)))), (0, .long (jI q)), (2, .long (jI r))]) hx hb dX0_root_32 hl rfl (by decide) rfl (fun ls hl => ?_)
      refine lv_goto (tgt := 6) hx hb dX0_root_35 (by decide) ?_
      exact ih_6 r (t + (-1)) ls ⟨(by omega), (by rw [show (30 - (t + -1)).toNat = (30 - t).toNat + 1 by omega, isn, ← q3z, show 30 - (30 - t).toNat = t.toNat by omega]; first | rw [if_pos (by omega)] | rw [if_neg (by omega)])⟩ (show ((t + (-1)) + 1).toNat < (t + 1).toNat by omega) (lv_sub hl [2, 3, 0] rfl)
    · refine lv_lload hx hb dX0_root_29 (lv_at hl 0 rfl) ?_
      refine lv_lstore_n (lv' := [(2, .long (jI (r + (2 ^ Int.toNat t)))), (5, .long (jI (r + (2 ^ Int.toNat t)))), (0, .long (jI q)), (4, .int (iI t))]) hx hb dX0_root_31 rfl hl (by decide) rfl (fun ls hl => ?_)
      refine z_iinc (k := 3) (lv' := [(4, .int (iI (t + (-1)))), (2, .long (jI (r + (2 ^ Int.toNat t)))), (5, .long (jI (r + (2 ^ Int.toNat t)))), (0, .long (jI q))]) hx hb dX0_root_32 hl rfl (by decide) rfl (fun ls hl => ?_)
      refine lv_goto (tgt := 6) hx hb dX0_root_35 (by decide) ?_
      exact ih_6 (r + (2 ^ Int.toNat t)) (t + (-1)) ls ⟨(by omega), (by rw [show (30 - (t + -1)).toNat = (30 - t).toNat + 1 by omega, isn, ← q3z, show 30 - (30 - t).toNat = t.toNat by omega]; first | rw [if_pos (by omega)] | rw [if_neg (by omega)])⟩ (show ((t + (-1)) + 1).toNat < (t + 1).toNat by omega) (lv_sub hl [3, 1, 0] rfl)
set_option maxHeartbeats 4000000 in
set_option maxRecDepth 100000 in
theorem c_X0_distance (l : Launch) (g : GG) (u : ST) (a : Int) (b : Int) (hI : Inv u) (hb_a : B32 a) (hb_b : B32 b) : Met l yX0_distance wsX0_distance (k2_rm 6 140) (va_Pc [.ref (gX g 0), .int (iI a), .int (iI b)] (fun U => PX g u U U.heap)) (vp_Sl (fun r => r = jI (diR u a b))) 0 0 (fun _ => False) := by
  refine Met.ofW (cc := cX0_distance) (maxL := 3) (ret := (some .long)) (by decide) rfl ?_
  intro pp ee s mm args below meth cc9 s₁ B hml hv
  obtain ⟨rfl, hPX⟩ := hv
  obtain ⟨hP, hK, hZS⟩ := id hPX
  have hx := B.exec
  have hb := B.bytes
  have hr := B.returns
  have hts := atoms_spec (ws := wsX0_distance) B.pre
  have hown : s.vm.findClass RX0 = some mm.cls := findClass_of_methodNamed B.named
  have hlocks := B.notSynchronized
  have hin : ∀ w ∈ wsX00, w ∈ wsX0_distance := fun w h => List.mem_cons_of_mem _ (List.mem_append_right _ h)
  have m124 : Cond.constantLong RX0 124 (-9000000000000000003) ∈ wsX0_distance := by decide +kernel
  have hS0 : va_S nA s.heap s.heap [] := va_S.rf
  have hi_bl := iv_bl hI
  have hi_pg := iv_pg hI
  have hi_se := iv_se hI
  have hi_dr := iv_dr hI
  have hl := lv_entry ([.ref (gX g 0), .int (iI a), .int (iI b)]) (n := 3) (Nat.le_of_ble_eq_true rfl)
  rw [lg_entry_eq]
  generalize (lg_sl ([.ref (gX g 0), .int (iI a), .int (iI b)]) ++ List.replicate (3 - (lg_sl ([.ref (gX g 0), .int (iI a), .int (iI b)])).length) Slot.unset).toArray = ls at hl ⊢
  have hl : lv_has ls 3 [(0, .ref (gX g 0)), (1, .int (iI a)), (2, .int (iI b))] := hl
  refine lv_aload_n hx hb dX0_distance_0 rfl (lv_at hl 0 rfl) ?_
  refine lv_iload_n hx hb dX0_distance_1 rfl (lv_at hl 1 rfl) ?_
  refine zV_z (As := [.int (iI a)]) (rest := []) ⟨hx, hb, hml, hown, hts⟩ (PY g u) (PY_blind g u) (PY_mv hP hK) (rcX hK hP) (c_X0_momentExists l g u a hI (by omega)) (cwV 1 hts gX0_distance_X0_momentExists rfl rfl rfl (by decide +kernel) ⟨Nat.le_of_ble_eq_true rfl, Nat.le_of_ble_eq_true rfl⟩) rfl hl.1 rfl (Nat.le_of_ble_eq_true rfl) dX0_distance_2 ⟨Nat.zero_le _, Nat.zero_le _⟩ (fun c_1 => ?_) (fun c_1 => ?_)
  · refine z_if_eq (tgt := 16) hx hb dX0_distance_5 (by decide) ⟨by decide, by decide⟩ (fun c_2 => (absurd c_2 (by decide))) (fun c_2 => ?_)
    refine lv_aload_n hx hb dX0_distance_8 rfl (lv_at hl 0 rfl) ?_
    refine lv_iload_n hx hb dX0_distance_9 rfl (lv_at hl 2 rfl) ?_
    refine zV_z (As := [.int (iI b)]) (rest := []) ⟨hx, hb, hml, hown, hts⟩ (PY g u) (PY_blind g u) (PY_mv hP hK) (rcX hK hP) (c_X0_momentExists l g u b hI (by omega)) (cwV 1 hts gX0_distance_X0_momentExists rfl rfl rfl (by decide +kernel) ⟨Nat.le_of_ble_eq_true rfl, Nat.le_of_ble_eq_true rfl⟩) rfl hl.1 rfl (Nat.le_of_ble_eq_true rfl) dX0_distance_10 ⟨Nat.zero_le _, Nat.zero_le _⟩ (fun c_3 => ?_) (fun c_3 => ?_)
    · refine z_if_ne (tgt := 20) hx hb dX0_distance_13 (by decide) ⟨by decide, by decide⟩ (fun c_4 => ?_) (fun c_4 => (absurd c_4 (by decide)))
      refine lv_aload_n hx hb dX0_distance_20 rfl (lv_at hl 0 rfl) ?_
      refine lv_iload_n hx hb dX0_distance_21 rfl (lv_at hl 1 rfl) ?_
      refine lv_iload_n hx hb dX0_distance_22 rfl (lv_at hl 2 rfl) ?_
      refine z_bipush hx hb dX0_distance_23 (by decide +kernel) ?_
      refine zV_l (As := [.int (iI a), .int (iI b), .int (iI 8)]) (rest := []) ⟨hx, hb, hml, hown, hts⟩ (PX g u) (PX_blind g u) (PX_mv hPX) (rcX hK hP) (c_X0_difference l g u a b 8 hI (by omega) (by omega) (by omega)) (cwV 3 hts gX0_distance_X0_difference rfl rfl rfl (by decide +kernel) ⟨Nat.le_of_ble_eq_true rfl, Nat.le_of_ble_eq_true rfl⟩) rfl hl.1 rfl (Nat.le_of_ble_eq_true rfl) dX0_distance_25 ⟨Nat.zero_le _, Nat.zero_le _⟩ ?_
      refine lv_aload_n hx hb dX0_distance_28 rfl (lv_at hl 0 rfl) ?_
      refine lv_iload_n hx hb dX0_distance_29 rfl (lv_at hl 1 rfl) ?_
      refine lv_iload_n hx hb dX0_distance_30 rfl (lv_at hl 2 rfl) ?_
      refine z_iconst hx hb dX0_distance_31 ?_
      refine zV_l (As := [.int (iI a), .int (iI b), .int (iI 0)]) (rest := [.long (jI (df u 8 a b))]) ⟨hx, hb, hml, hown, hts⟩ (PX g u) (PX_blind g u) (PX_mv hPX) (rcX hK hP) (c_X0_difference l g u a b 0 hI (by omega) (by omega) (by omega)) (cwV 3 hts gX0_distance_X0_difference rfl rfl rfl (by decide +kernel) ⟨Nat.le_of_ble_eq_true rfl, Nat.le_of_ble_eq_true rfl⟩) rfl hl.1 rfl (Nat.le_of_ble_eq_true rfl) dX0_distance_32 ⟨Nat.zero_le _, Nat.zero_le _⟩ ?_
      refine zS_l (As := [.long (jI (df u 8 a b)), .long (jI (df u 0 a b))]) (rest := []) ⟨hx, hb, hml, hown, hts⟩ (PT) PT_blind PT_mv  (c_X0_squares l g (df u 8 a b) (df u 0 a b)) (va_cwS 2 hts gX0_distance_X0_squares rfl rfl rfl (by decide +kernel) ⟨Nat.le_of_ble_eq_true rfl, Nat.le_of_ble_eq_true rfl⟩) rfl hl.1 rfl (Nat.le_of_ble_eq_true rfl) dX0_distance_35 ⟨Nat.zero_le _, Nat.zero_le _⟩ ?_
      refine zS_l (As := [.long (jI ((df u 8 a b) * (df u 8 a b) + (df u 0 a b) * (df u 0 a b)))]) (rest := []) ⟨hx, hb, hml, hown, hts⟩ (PT) PT_blind PT_mv  (c_X0_root l g ((df u 8 a b) * (df u 8 a b) + (df u 0 a b) * (df u 0 a b)) (dq_b hI (by omega) (by omega))) (va_cwS 1 hts gX0_distance_X0_root rfl rfl rfl (by decide +kernel) ⟨Nat.le_of_ble_eq_true rfl, Nat.le_of_ble_eq_true rfl⟩) rfl hl.1 rfl (Nat.le_of_ble_eq_true rfl) dX0_distance_38 ⟨Nat.zero_le _, Nat.zero_le _⟩ ?_
      exact zr_l hx hb hr hlocks dX0_distance_41 (by unfold diR eNM; split <;> first | (exfalso; omega) | rfl)
    · refine z_if_ne (tgt := 20) hx hb dX0_distance_13 (by decide) ⟨by decide, by decide⟩ (fun c_5 => (absurd c_5 (by decide))) (fun c_5 => ?_)
      refine lv_ldc2 (v := jI (-9000000000000000003)) hx hb hown (hts _ m124) dX0_distance_16 ?_
      exact zr_l hx hb hr hlocks dX0_distance_19 (by unfold diR eNM; split <;> first | (exfalso; omega) | rfl)
  · refine z_if_eq (tgt := 16) hx hb dX0_distance_5 (by decide) ⟨by decide, by decide⟩ (fun c_6 => ?_) (fun c_6 => (absurd c_6 (by decide)))
    refine lv_ldc2 (v := jI (-9000000000000000003)) hx hb hown (hts _ m124) dX0_distance_16 ?_
    exact zr_l hx hb hr hlocks dX0_distance_19 (by unfold diR eNM; split <;> first | (exfalso; omega) | rfl)
set_option maxHeartbeats 4000000 in
set_option maxRecDepth 100000 in
theorem c_X0_advance (l : Launch) (g : GG) (n : Int) (e9z : Int) (p : Int) (k0z : 0 ≤ p ∧ p ≤ 31) : Met l yX0_advance wsX0_advance (k2_rm 2 44) (va_Pc [.long (jI n), .long (jI e9z), .int (iI p)] (fun U => PZ g U U.heap)) (vp_Sl (fun r => r = jI (adv n e9z p))) 0 0 (fun _ => False) := by
  refine Met.ofW (cc := cX0_advance) (maxL := 5) (ret := (some .long)) (by decide) rfl ?_
  intro pp ee s mm args below meth cc9 s₁ B hml hv
  obtain ⟨rfl, hPX⟩ := hv
  have hZS : ZS nA g s s.heap := hPX
  have hx := B.exec
  have hb := B.bytes
  have hr := B.returns
  have hts := atoms_spec (ws := wsX0_advance) B.pre
  have hown : s.vm.findClass RX0 = some mm.cls := findClass_of_methodNamed B.named
  have hlocks := B.notSynchronized
  have hS0 : va_S nA s.heap s.heap [] := va_S.rf
  have hl := lv_entry ([.long (jI n), .long (jI e9z), .int (iI p)]) (n := 5) (Nat.le_of_ble_eq_true rfl)
  rw [lg_entry_eq]
  generalize (lg_sl ([.long (jI n), .long (jI e9z), .int (iI p)]) ++ List.replicate (5 - (lg_sl ([.long (jI n), .long (jI e9z), .int (iI p)])).length) Slot.unset).toArray = ls at hl ⊢
  have hl : lv_has ls 5 [(0, .long (jI n)), (2, .long (jI e9z)), (4, .int (iI p))] := hl
  refine lv_lload_n hx hb dX0_advance_0 rfl (lv_at hl 0 rfl) ?_
  refine lv_iload hx hb dX0_advance_1 (lv_at hl 2 rfl) ?_
  refine z_iconst hx hb dX0_advance_3 ?_
  refine z_bipush hx hb dX0_advance_4 (by decide +kernel) ?_
  refine zS_l (As := [.int (iI p), .int (iI 1), .int (iI 8)]) (rest := [.long (jI n)]) ⟨hx, hb, hml, hown, hts⟩ (PZ g) (PZ_blind g) (PZ_mv hZS)  (c_X0_movement l g p 1 8 (by omega) (by omega) (by omega)) (va_cwS 3 hts gX0_advance_X0_movement rfl rfl rfl (by decide +kernel) ⟨Nat.le_of_ble_eq_true rfl, Nat.le_of_ble_eq_true rfl⟩) rfl hl.1 rfl (Nat.le_of_ble_eq_true rfl) dX0_advance_6 ⟨Nat.zero_le _, Nat.zero_le _⟩ ?_
  refine z_lmul hx hb dX0_advance_9 ?_
  refine lv_lload_n hx hb dX0_advance_10 rfl (lv_at hl 1 rfl) ?_
  refine lv_iload hx hb dX0_advance_11 (lv_at hl 2 rfl) ?_
  refine z_iconst hx hb dX0_advance_13 ?_
  refine z_iconst hx hb dX0_advance_14 ?_
  refine zS_l (As := [.int (iI p), .int (iI 1), .int (iI 0)]) (rest := [.long (jI e9z), .long (jI (n * (mv 8 p 1)))]) ⟨hx, hb, hml, hown, hts⟩ (PZ g) (PZ_blind g) (PZ_mv hZS)  (c_X0_movement l g p 1 0 (by omega) (by omega) (by omega)) (va_cwS 3 hts gX0_advance_X0_movement rfl rfl rfl (by decide +kernel) ⟨Nat.le_of_ble_eq_true rfl, Nat.le_of_ble_eq_true rfl⟩) rfl hl.1 rfl (Nat.le_of_ble_eq_true rfl) dX0_advance_15 ⟨Nat.zero_le _, Nat.zero_le _⟩ ?_
  refine z_lmul hx hb dX0_advance_18 ?_
  refine z_ladd hx hb dX0_advance_19 ?_
  exact zr_l hx hb hr hlocks dX0_advance_20 (by first | rfl | omega)
set_option maxHeartbeats 4000000 in
set_option maxRecDepth 100000 in
theorem c_X0_nearestPoint (l : Launch) (g : GG) (n : Int) (e9z : Int) (hn : -1000000000 ≤ n ∧ n ≤ 1000000000) (he : -1000000000 ≤ e9z ∧ e9z ≤ 1000000000) : Met l yX0_nearestPoint wsX0_nearestPoint (k2_rm 3 68) (va_Pc [.long (jI n), .long (jI e9z)] (fun U => PZ g U U.heap)) (vp_Si (fun r => r = iI (np n e9z))) 0 0 (fun _ => False) := by
  refine Met.ofW (cc := cX0_nearestPoint) (maxL := 6) (ret := (some .int)) (by decide) rfl ?_
  intro pp ee s mm args below meth cc9 s₁ B hml hv
  obtain ⟨rfl, hPX⟩ := hv
  have hZS : ZS nA g s s.heap := hPX
  have hx := B.exec
  have hb := B.bytes
  have hr := B.returns
  have hts := atoms_spec (ws := wsX0_nearestPoint) B.pre
  have hown : s.vm.findClass RX0 = some mm.cls := findClass_of_methodNamed B.named
  have hlocks := B.notSynchronized
  have hS0 : va_S nA s.heap s.heap [] := va_S.rf
  have hl := lv_entry ([.long (jI n), .long (jI e9z)]) (n := 6) (Nat.le_of_ble_eq_true rfl)
  rw [lg_entry_eq]
  generalize (lg_sl ([.long (jI n), .long (jI e9z)]) ++ List.replicate (6 - (lg_sl ([.long (jI n), .long (jI e9z)])).length) Slot.unset).toArray = ls at hl ⊢
  have hl : lv_has ls 6 [(0, .long (jI n)), (2, .long (jI e9z))] := hl
  refine z_iconst hx hb dX0_nearestPoint_0 ?_
  refine lv_istore (lv' := [(4, .int (iI 0)), (0, .long (jI n)), (2, .long (jI e9z))]) hx hb dX0_nearestPoint_1 hl (by decide) rfl (fun ls hl => ?_)
  refine z_iconst hx hb dX0_nearestPoint_3 ?_
  refine lv_istore (lv' := [(5, .int (iI 1)), (4, .int (iI 0)), (0, .long (jI n)), (2, .long (jI e9z))]) hx hb dX0_nearestPoint_4 hl (by decide) rfl (fun ls hl => ?_)
  refine z_loop2 (nL := 6) (fun f q => (1 ≤ q ∧ q ≤ 32) ∧ (f = npn n e9z (q - 1).toNat) ∧ (0 ≤ f ∧ f ≤ 31)) (fun f q => (32 - q).toNat) (fun f q => [(0, .long (jI n)), (2, .long (jI e9z)), (4, .int (iI f)), (5, .int (iI q))]) (fun f q ls hinv hl ih_6 => ?_) 0 1 ls ⟨(by omega), (by rfl), (by omega)⟩ (lv_sub hl [2, 3, 1, 0] rfl)
  have hinv : (1 ≤ q ∧ q ≤ 32) ∧ (f = npn n e9z (q - 1).toNat) ∧ (0 ≤ f ∧ f ≤ 31) := hinv
  obtain ⟨q1z, q2z, q3z⟩ := hinv
  have hl : lv_has ls 6 [(0, .long (jI n)), (2, .long (jI e9z)), (4, .int (iI f)), (5, .int (iI q))] := hl
  have hs := npn_s n e9z (k := q - 1) (by omega)
  have ha1 := adv_rng hn he q
  have ha2 := adv_rng hn he f
  rw [show q - 1 + 1 = q by omega, ← q2z] at hs
  refine lv_iload hx hb dX0_nearestPoint_6 (lv_at hl 3 rfl) ?_
  refine z_bipush hx hb dX0_nearestPoint_8 (by decide +kernel) ?_
  refine z_icmp_ge (tgt := 41) hx hb dX0_nearestPoint_10 (by decide) (by omega) ⟨by decide, by decide⟩ (fun c_1 => ?_) (fun c_1 => ?_)
  · refine lv_iload hx hb dX0_nearestPoint_41 (lv_at hl 2 rfl) ?_
    exact zr_i hx hb hr hlocks dX0_nearestPoint_43 (by rw [q2z, show q = 32 by omega]; rfl)
  · refine lv_lload_n hx hb dX0_nearestPoint_13 rfl (lv_at hl 0 rfl) ?_
    refine lv_lload_n hx hb dX0_nearestPoint_14 rfl (lv_at hl 1 rfl) ?_
    refine lv_iload hx hb dX0_nearestPoint_15 (lv_at hl 3 rfl) ?_
    refine zS_l (As := [.long (jI n), .long (jI e9z), .int (iI q)]) (rest := []) ⟨hx, hb, hml, hown, hts⟩ (PZ g) (PZ_blind g) (PZ_mv hZS)  (c_X0_advance l g n e9z q (by omega)) (va_cwS 3 hts gX0_nearestPoint_X0_advance rfl rfl rfl (by decide +kernel) ⟨Nat.le_of_ble_eq_true rfl, Nat.le_of_ble_eq_true rfl⟩) rfl hl.1 rfl (Nat.le_of_ble_eq_true rfl) dX0_nearestPoint_17 ⟨Nat.zero_le _, Nat.zero_le _⟩ ?_
    refine lv_lload_n hx hb dX0_nearestPoint_20 rfl (lv_at hl 0 rfl) ?_
    refine lv_lload_n hx hb dX0_nearestPoint_21 rfl (lv_at hl 1 rfl) ?_
    refine lv_iload hx hb dX0_nearestPoint_22 (lv_at hl 2 rfl) ?_
    refine zS_l (As := [.long (jI n), .long (jI e9z), .int (iI f)]) (rest := [.long (jI (adv n e9z q))]) ⟨hx, hb, hml, hown, hts⟩ (PZ g) (PZ_blind g) (PZ_mv hZS)  (c_X0_advance l g n e9z f (by omega)) (va_cwS 3 hts gX0_nearestPoint_X0_advance rfl rfl rfl (by decide +kernel) ⟨Nat.le_of_ble_eq_true rfl, Nat.le_of_ble_eq_true rfl⟩) rfl hl.1 rfl (Nat.le_of_ble_eq_true rfl) dX0_nearestPoint_24 ⟨Nat.zero_le _, Nat.zero_le _⟩ ?_
    refine z_lcmp_le (tgt := 35) hx hb dX0_nearestPoint_27 dX0_nearestPoint_28 (by decide) (by omega) (by omega) (fun c_2 => ?_) (fun c_2 => ?_)
    · refine z_iinc (k := 3) (lv' := [(5, .int (iI (q + 1))), (0, .long (jI n)), (2, .long (jI e9z)), (4, .int (iI f))]) hx hb dX0_nearestPoint_35 hl rfl (by decide) rfl (fun ls hl => ?_)
      refine lv_goto (tgt := 6) hx hb dX0_nearestPoint_38 (by decide) ?_
      exact ih_6 f (q + 1) ls ⟨(by omega), (by rw [show q + 1 - 1 = q by omega, hs]; first | rw [if_pos (by omega)] | rw [if_neg (by omega)]), (by omega)⟩ (show (32 - (q + 1)).toNat < (32 - q).toNat by omega) (lv_sub hl [1, 2, 3, 0] rfl)
    · refine lv_iload hx hb dX0_nearestPoint_31 (lv_at hl 3 rfl) ?_
      refine lv_istore (lv' := [(4, .int (iI q)), (0, .long (jI n)), (2, .long (jI e9z)), (5, .int (iI q))]) hx hb dX0_nearestPoint_33 hl (by decide) rfl (fun ls hl => ?_)
      refine z_iinc (k := 3) (lv' := [(5, .int (iI (q + 1))), (4, .int (iI q)), (0, .long (jI n)), (2, .long (jI e9z))]) hx hb dX0_nearestPoint_35 hl rfl (by decide) rfl (fun ls hl => ?_)
      refine lv_goto (tgt := 6) hx hb dX0_nearestPoint_38 (by decide) ?_
      exact ih_6 q (q + 1) ls ⟨(by omega), (by rw [show q + 1 - 1 = q by omega, hs]; first | rw [if_pos (by omega)] | rw [if_neg (by omega)]), (by omega)⟩ (show (32 - (q + 1)).toNat < (32 - q).toNat by omega) (lv_sub hl [2, 3, 1, 0] rfl)
set_option maxHeartbeats 4000000 in
set_option maxRecDepth 100000 in
theorem c_X0_bearing (l : Launch) (g : GG) (u : ST) (a : Int) (b : Int) (hI : Inv u) (hb_a : B32 a) (hb_b : B32 b) : Met l yX0_bearing wsX0_bearing (k2_rm 6 140) (va_Pc [.ref (gX g 0), .int (iI a), .int (iI b)] (fun U => PX g u U U.heap)) (vp_Sl (fun r => r = jI (brR u a b))) 0 0 (fun _ => False) := by
  refine Met.ofW (cc := cX0_bearing) (maxL := 7) (ret := (some .long)) (by decide) rfl ?_
  intro pp ee s mm args below meth cc9 s₁ B hml hv
  obtain ⟨rfl, hPX⟩ := hv
  obtain ⟨hP, hK, hZS⟩ := id hPX
  have hx := B.exec
  have hb := B.bytes
  have hr := B.returns
  have hts := atoms_spec (ws := wsX0_bearing) B.pre
  have hown : s.vm.findClass RX0 = some mm.cls := findClass_of_methodNamed B.named
  have hlocks := B.notSynchronized
  have hin : ∀ w ∈ wsX00, w ∈ wsX0_bearing := fun w h => List.mem_cons_of_mem _ (List.mem_append_right _ h)
  have m108 : Cond.constantLong RX0 108 (-9000000000000000007) ∈ wsX0_bearing := by decide +kernel
  have m124 : Cond.constantLong RX0 124 (-9000000000000000003) ∈ wsX0_bearing := by decide +kernel
  have hS0 : va_S nA s.heap s.heap [] := va_S.rf
  have hi_bl := iv_bl hI
  have hi_pg := iv_pg hI
  have hi_se := iv_se hI
  have hi_dr := iv_dr hI
  have hl := lv_entry ([.ref (gX g 0), .int (iI a), .int (iI b)]) (n := 7) (Nat.le_of_ble_eq_true rfl)
  rw [lg_entry_eq]
  generalize (lg_sl ([.ref (gX g 0), .int (iI a), .int (iI b)]) ++ List.replicate (7 - (lg_sl ([.ref (gX g 0), .int (iI a), .int (iI b)])).length) Slot.unset).toArray = ls at hl ⊢
  have hl : lv_has ls 7 [(0, .ref (gX g 0)), (1, .int (iI a)), (2, .int (iI b))] := hl
  refine lv_aload_n hx hb dX0_bearing_0 rfl (lv_at hl 0 rfl) ?_
  refine lv_iload_n hx hb dX0_bearing_1 rfl (lv_at hl 1 rfl) ?_
  refine zV_z (As := [.int (iI a)]) (rest := []) ⟨hx, hb, hml, hown, hts⟩ (PY g u) (PY_blind g u) (PY_mv hP hK) (rcX hK hP) (c_X0_momentExists l g u a hI (by omega)) (cwV 1 hts gX0_bearing_X0_momentExists rfl rfl rfl (by decide +kernel) ⟨Nat.le_of_ble_eq_true rfl, Nat.le_of_ble_eq_true rfl⟩) rfl hl.1 rfl (Nat.le_of_ble_eq_true rfl) dX0_bearing_2 ⟨Nat.zero_le _, Nat.zero_le _⟩ (fun c_1 => ?_) (fun c_1 => ?_)
  · refine z_if_eq (tgt := 16) hx hb dX0_bearing_5 (by decide) ⟨by decide, by decide⟩ (fun c_2 => (absurd c_2 (by decide))) (fun c_2 => ?_)
    refine lv_aload_n hx hb dX0_bearing_8 rfl (lv_at hl 0 rfl) ?_
    refine lv_iload_n hx hb dX0_bearing_9 rfl (lv_at hl 2 rfl) ?_
    refine zV_z (As := [.int (iI b)]) (rest := []) ⟨hx, hb, hml, hown, hts⟩ (PY g u) (PY_blind g u) (PY_mv hP hK) (rcX hK hP) (c_X0_momentExists l g u b hI (by omega)) (cwV 1 hts gX0_bearing_X0_momentExists rfl rfl rfl (by decide +kernel) ⟨Nat.le_of_ble_eq_true rfl, Nat.le_of_ble_eq_true rfl⟩) rfl hl.1 rfl (Nat.le_of_ble_eq_true rfl) dX0_bearing_10 ⟨Nat.zero_le _, Nat.zero_le _⟩ (fun c_3 => ?_) (fun c_3 => ?_)
    · refine z_if_ne (tgt := 20) hx hb dX0_bearing_13 (by decide) ⟨by decide, by decide⟩ (fun c_4 => ?_) (fun c_4 => (absurd c_4 (by decide)))
      have hd8 := df_rng hI 8 (a := a) (b := b) (by omega) (by omega)
      have hd0 := df_rng hI 0 (a := a) (b := b) (by omega) (by omega)
      have hnp := np_rng (df u 8 a b) (df u 0 a b)
      refine lv_aload_n hx hb dX0_bearing_20 rfl (lv_at hl 0 rfl) ?_
      refine lv_iload_n hx hb dX0_bearing_21 rfl (lv_at hl 1 rfl) ?_
      refine lv_iload_n hx hb dX0_bearing_22 rfl (lv_at hl 2 rfl) ?_
      refine z_bipush hx hb dX0_bearing_23 (by decide +kernel) ?_
      refine zV_l (As := [.int (iI a), .int (iI b), .int (iI 8)]) (rest := []) ⟨hx, hb, hml, hown, hts⟩ (PX g u) (PX_blind g u) (PX_mv hPX) (rcX hK hP) (c_X0_difference l g u a b 8 hI (by omega) (by omega) (by omega)) (cwV 3 hts gX0_bearing_X0_difference rfl rfl rfl (by decide +kernel) ⟨Nat.le_of_ble_eq_true rfl, Nat.le_of_ble_eq_true rfl⟩) rfl hl.1 rfl (Nat.le_of_ble_eq_true rfl) dX0_bearing_25 ⟨Nat.zero_le _, Nat.zero_le _⟩ ?_
      refine lv_lstore_n (lv' := [(3, .long (jI (df u 8 a b))), (0, .ref (gX g 0)), (1, .int (iI a)), (2, .int (iI b))]) hx hb dX0_bearing_28 rfl hl (by decide) rfl (fun ls hl => ?_)
      refine lv_aload_n hx hb dX0_bearing_29 rfl (lv_at hl 1 rfl) ?_
      refine lv_iload_n hx hb dX0_bearing_30 rfl (lv_at hl 2 rfl) ?_
      refine lv_iload_n hx hb dX0_bearing_31 rfl (lv_at hl 3 rfl) ?_
      refine z_iconst hx hb dX0_bearing_32 ?_
      refine zV_l (As := [.int (iI a), .int (iI b), .int (iI 0)]) (rest := []) ⟨hx, hb, hml, hown, hts⟩ (PX g u) (PX_blind g u) (PX_mv hPX) (rcX hK hP) (c_X0_difference l g u a b 0 hI (by omega) (by omega) (by omega)) (cwV 3 hts gX0_bearing_X0_difference rfl rfl rfl (by decide +kernel) ⟨Nat.le_of_ble_eq_true rfl, Nat.le_of_ble_eq_true rfl⟩) rfl hl.1 rfl (Nat.le_of_ble_eq_true rfl) dX0_bearing_33 ⟨Nat.zero_le _, Nat.zero_le _⟩ ?_
      refine lv_lstore (lv' := [(5, .long (jI (df u 0 a b))), (3, .long (jI (df u 8 a b))), (0, .ref (gX g 0)), (1, .int (iI a)), (2, .int (iI b))]) hx hb dX0_bearing_36 hl (by decide) rfl (fun ls hl => ?_)
      refine lv_lload_n hx hb dX0_bearing_38 rfl (lv_at hl 1 rfl) ?_
      refine z_lconst (z := 0) hx hb dX0_bearing_39 rfl ?_
      refine z_lcmp_ne (tgt := 55) hx hb dX0_bearing_40 dX0_bearing_41 (by decide) (by omega) ⟨by decide, by decide⟩ (fun c_5 => ?_) (fun c_5 => ?_)
      · refine lv_lload_n hx hb dX0_bearing_55 rfl (lv_at hl 1 rfl) ?_
        refine lv_lload hx hb dX0_bearing_56 (lv_at hl 0 rfl) ?_
        refine zS_i (As := [.long (jI (df u 8 a b)), .long (jI (df u 0 a b))]) (rest := []) ⟨hx, hb, hml, hown, hts⟩ (PZ g) (PZ_blind g) (PZ_mv hZS)  (c_X0_nearestPoint l g (df u 8 a b) (df u 0 a b) (by omega) (by omega)) (va_cwS 2 hts gX0_bearing_X0_nearestPoint rfl rfl rfl (by decide +kernel) ⟨Nat.le_of_ble_eq_true rfl, Nat.le_of_ble_eq_true rfl⟩) rfl hl.1 rfl (Nat.le_of_ble_eq_true rfl) dX0_bearing_58 ⟨Nat.zero_le _, Nat.zero_le _⟩ ?_
        refine z_i2l hx hb (by omega) dX0_bearing_61 ?_
        exact zr_l hx hb hr hlocks dX0_bearing_62 (by unfold brR br eNM eNO; (repeat' split) <;> first | (exfalso; omega) | rfl)
      · refine lv_lload hx hb dX0_bearing_44 (lv_at hl 0 rfl) ?_
        refine z_lconst (z := 0) hx hb dX0_bearing_46 rfl ?_
        refine z_lcmp_ne (tgt := 55) hx hb dX0_bearing_47 dX0_bearing_48 (by decide) (by omega) ⟨by decide, by decide⟩ (fun c_6 => ?_) (fun c_6 => ?_)
        · refine lv_lload_n hx hb dX0_bearing_55 rfl (lv_at hl 1 rfl) ?_
          refine lv_lload hx hb dX0_bearing_56 (lv_at hl 0 rfl) ?_
          refine zS_i (As := [.long (jI (df u 8 a b)), .long (jI (df u 0 a b))]) (rest := []) ⟨hx, hb, hml, hown, hts⟩ (PZ g) (PZ_blind g) (PZ_mv hZS)  (c_X0_nearestPoint l g (df u 8 a b) (df u 0 a b) (by omega) (by omega)) (va_cwS 2 hts gX0_bearing_X0_nearestPoint rfl rfl rfl (by decide +kernel) ⟨Nat.le_of_ble_eq_true rfl, Nat.le_of_ble_eq_true rfl⟩) rfl hl.1 rfl (Nat.le_of_ble_eq_true rfl) dX0_bearing_58 ⟨Nat.zero_le _, Nat.zero_le _⟩ ?_
          refine z_i2l hx hb (by omega) dX0_bearing_61 ?_
          exact zr_l hx hb hr hlocks dX0_bearing_62 (by unfold brR br eNM eNO; (repeat' split) <;> first | (exfalso; omega) | rfl)
        · refine lv_ldc2 (v := jI (-9000000000000000007)) hx hb hown (hts _ m108) dX0_bearing_51 ?_
          exact zr_l hx hb hr hlocks dX0_bearing_54 (by unfold brR br eNM eNO; (repeat' split) <;> first | (exfalso; omega) | rfl)
    · refine z_if_ne (tgt := 20) hx hb dX0_bearing_13 (by decide) ⟨by decide, by decide⟩ (fun c_7 => (absurd c_7 (by decide))) (fun c_7 => ?_)
      refine lv_ldc2 (v := jI (-9000000000000000003)) hx hb hown (hts _ m124) dX0_bearing_16 ?_
      exact zr_l hx hb hr hlocks dX0_bearing_19 (by unfold brR br eNM eNO; (repeat' split) <;> first | (exfalso; omega) | rfl)
  · refine z_if_eq (tgt := 16) hx hb dX0_bearing_5 (by decide) ⟨by decide, by decide⟩ (fun c_8 => ?_) (fun c_8 => (absurd c_8 (by decide)))
    refine lv_ldc2 (v := jI (-9000000000000000003)) hx hb hown (hts _ m124) dX0_bearing_16 ?_
    exact zr_l hx hb hr hlocks dX0_bearing_19 (by unfold brR br eNM eNO; (repeat' split) <;> first | (exfalso; omega) | rfl)
set_option maxHeartbeats 4000000 in
set_option maxRecDepth 100000 in
theorem c_X0_miss (l : Launch) (g : GG) (n : Int) (e9z : Int) (p : Int) (v : Int) (k0z : -1000 ≤ p ∧ p ≤ 1000) (k1z : 0 ≤ v ∧ v ≤ 200) : Met l yX0_miss wsX0_miss (k2_rm 2 44) (va_Pc [.long (jI n), .long (jI e9z), .int (iI p), .int (iI v)] (fun U => PZ g U U.heap)) (vp_Sl (fun r => r = jI (ms n e9z p v))) 0 0 (fun _ => False) := by
  refine Met.ofW (cc := cX0_miss) (maxL := 6) (ret := (some .long)) (by decide) rfl ?_
  intro pp ee s mm args below meth cc9 s₁ B hml hv
  obtain ⟨rfl, hPX⟩ := hv
  have hZS : ZS nA g s s.heap := hPX
  have hx := B.exec
  have hb := B.bytes
  have hr := B.returns
  have hts := atoms_spec (ws := wsX0_miss) B.pre
  have hown : s.vm.findClass RX0 = some mm.cls := findClass_of_methodNamed B.named
  have hlocks := B.notSynchronized
  have hS0 : va_S nA s.heap s.heap [] := va_S.rf
  have hl := lv_entry ([.long (jI n), .long (jI e9z), .int (iI p), .int (iI v)]) (n := 6) (Nat.le_of_ble_eq_true rfl)
  rw [lg_entry_eq]
  generalize (lg_sl ([.long (jI n), .long (jI e9z), .int (iI p), .int (iI v)]) ++ List.replicate (6 - (lg_sl ([.long (jI n), .long (jI e9z), .int (iI p), .int (iI v)])).length) Slot.unset).toArray = ls at hl ⊢
  have hl : lv_has ls 6 [(0, .long (jI n)), (2, .long (jI e9z)), (4, .int (iI p)), (5, .int (iI v))] := hl
  refine lv_lload_n hx hb dX0_miss_0 rfl (lv_at hl 0 rfl) ?_
  refine lv_iload hx hb dX0_miss_1 (lv_at hl 2 rfl) ?_
  refine lv_iload hx hb dX0_miss_3 (lv_at hl 3 rfl) ?_
  refine z_bipush hx hb dX0_miss_5 (by decide +kernel) ?_
  refine zS_l (As := [.int (iI p), .int (iI v), .int (iI 8)]) (rest := [.long (jI n)]) ⟨hx, hb, hml, hown, hts⟩ (PZ g) (PZ_blind g) (PZ_mv hZS)  (c_X0_movement l g p v 8 (by omega) (by omega) (by omega)) (va_cwS 3 hts gX0_miss_X0_movement rfl rfl rfl (by decide +kernel) ⟨Nat.le_of_ble_eq_true rfl, Nat.le_of_ble_eq_true rfl⟩) rfl hl.1 rfl (Nat.le_of_ble_eq_true rfl) dX0_miss_7 ⟨Nat.zero_le _, Nat.zero_le _⟩ ?_
  refine z_lsub hx hb dX0_miss_10 ?_
  refine lv_lload_n hx hb dX0_miss_11 rfl (lv_at hl 1 rfl) ?_
  refine lv_iload hx hb dX0_miss_12 (lv_at hl 2 rfl) ?_
  refine lv_iload hx hb dX0_miss_14 (lv_at hl 3 rfl) ?_
  refine z_iconst hx hb dX0_miss_16 ?_
  refine zS_l (As := [.int (iI p), .int (iI v), .int (iI 0)]) (rest := [.long (jI e9z), .long (jI (n - (mv 8 p v)))]) ⟨hx, hb, hml, hown, hts⟩ (PZ g) (PZ_blind g) (PZ_mv hZS)  (c_X0_movement l g p v 0 (by omega) (by omega) (by omega)) (va_cwS 3 hts gX0_miss_X0_movement rfl rfl rfl (by decide +kernel) ⟨Nat.le_of_ble_eq_true rfl, Nat.le_of_ble_eq_true rfl⟩) rfl hl.1 rfl (Nat.le_of_ble_eq_true rfl) dX0_miss_17 ⟨Nat.zero_le _, Nat.zero_le _⟩ ?_
  refine z_lsub hx hb dX0_miss_20 ?_
  refine zS_l (As := [.long (jI (n - (mv 8 p v))), .long (jI (e9z - (mv 0 p v)))]) (rest := []) ⟨hx, hb, hml, hown, hts⟩ (PT) PT_blind PT_mv  (c_X0_squares l g (n - (mv 8 p v)) (e9z - (mv 0 p v))) (va_cwS 2 hts gX0_miss_X0_squares rfl rfl rfl (by decide +kernel) ⟨Nat.le_of_ble_eq_true rfl, Nat.le_of_ble_eq_true rfl⟩) rfl hl.1 rfl (Nat.le_of_ble_eq_true rfl) dX0_miss_21 ⟨Nat.zero_le _, Nat.zero_le _⟩ ?_
  exact zr_l hx hb hr hlocks dX0_miss_24 (by first | rfl | omega)
set_option maxHeartbeats 4000000 in
set_option maxRecDepth 100000 in
theorem c_X0_likeliest (l : Launch) (g : GG) (n : Int) (e9z : Int) (le : Int) (hn : -1000000000 ≤ n ∧ n ≤ 1000000000) (he : -1000000000 ≤ e9z ∧ e9z ≤ 1000000000) (hle : -2 ≤ le ∧ le ≤ 2) : Met l yX0_likeliest wsX0_likeliest (k2_rm 3 69) (va_Pc [.long (jI n), .long (jI e9z), .int (iI le)] (fun U => PZ g U U.heap)) (vp_Sl (fun r => r = jI (lk n e9z le))) 0 0 (fun _ => False) := by
  refine Met.ofW (cc := cX0_likeliest) (maxL := 13) (ret := (some .long)) (by decide) rfl ?_
  intro pp ee s mm args below meth cc9 s₁ B hml hv
  obtain ⟨rfl, hPX⟩ := hv
  have hZS : ZS nA g s s.heap := hPX
  have hx := B.exec
  have hb := B.bytes
  have hr := B.returns
  have hts := atoms_spec (ws := wsX0_likeliest) B.pre
  have hown : s.vm.findClass RX0 = some mm.cls := findClass_of_methodNamed B.named
  have hlocks := B.notSynchronized
  have m200 : Cond.constantLong RX0 200 (1000) ∈ wsX0_likeliest := by decide +kernel
  have hS0 : va_S nA s.heap s.heap [] := va_S.rf
  have hl := lv_entry ([.long (jI n), .long (jI e9z), .int (iI le)]) (n := 13) (Nat.le_of_ble_eq_true rfl)
  rw [lg_entry_eq]
  generalize (lg_sl ([.long (jI n), .long (jI e9z), .int (iI le)]) ++ List.replicate (13 - (lg_sl ([.long (jI n), .long (jI e9z), .int (iI le)])).length) Slot.unset).toArray = ls at hl ⊢
  have hl : lv_has ls 13 [(0, .long (jI n)), (2, .long (jI e9z)), (4, .int (iI le))] := hl
  refine z_lconst (z := 0) hx hb dX0_likeliest_0 rfl ?_
  refine lv_lstore (lv' := [(5, .long (jI 0)), (0, .long (jI n)), (2, .long (jI e9z)), (4, .int (iI le))]) hx hb dX0_likeliest_1 hl (by decide) rfl (fun ls hl => ?_)
  refine lv_lload_n hx hb dX0_likeliest_3 rfl (lv_at hl 1 rfl) ?_
  refine lv_lload_n hx hb dX0_likeliest_4 rfl (lv_at hl 2 rfl) ?_
  refine zS_l (As := [.long (jI n), .long (jI e9z)]) (rest := []) ⟨hx, hb, hml, hown, hts⟩ (PT) PT_blind PT_mv  (c_X0_squares l g n e9z) (va_cwS 2 hts gX0_likeliest_X0_squares rfl rfl rfl (by decide +kernel) ⟨Nat.le_of_ble_eq_true rfl, Nat.le_of_ble_eq_true rfl⟩) rfl hl.1 rfl (Nat.le_of_ble_eq_true rfl) dX0_likeliest_5 ⟨Nat.zero_le _, Nat.zero_le _⟩ ?_
  refine lv_lstore (lv' := [(7, .long (jI (n * n + e9z * e9z))), (5, .long (jI 0)), (0, .long (jI n)), (2, .long (jI e9z)), (4, .int (iI le))]) hx hb dX0_likeliest_8 hl (by decide) rfl (fun ls hl => ?_)
  refine z_iconst hx hb dX0_likeliest_10 ?_
  refine lv_istore (lv' := [(9, .int (iI 1)), (7, .long (jI (n * n + e9z * e9z))), (5, .long (jI 0)), (0, .long (jI n)), (2, .long (jI e9z)), (4, .int (iI le))]) hx hb dX0_likeliest_11 hl (by decide) rfl (fun ls hl => ?_)
  refine z_loop3 (nL := 13) (fun f x v => (1 ≤ v ∧ v ≤ 201) ∧ ((x, f) = lkv n e9z le (v - 1).toNat)) (fun f x v => (201 - v).toNat) (fun f x v => [(0, .long (jI n)), (2, .long (jI e9z)), (4, .int (iI le)), (5, .long (jI f)), (7, .long (jI x)), (9, .int (iI v))]) (fun f x v ls hinv hl ih_13 => ?_) 0 (n * n + e9z * e9z) 1 ls ⟨(by omega), (by rfl)⟩ (lv_sub hl [3, 4, 5, 2, 1, 0] rfl)
  have hinv : (1 ≤ v ∧ v ≤ 201) ∧ ((x, f) = lkv n e9z le (v - 1).toNat) := hinv
  obtain ⟨q1z, q2z⟩ := hinv
  have hl : lv_has ls 13 [(0, .long (jI n)), (2, .long (jI e9z)), (4, .int (iI le)), (5, .long (jI f)), (7, .long (jI x)), (9, .int (iI v))] := hl
  refine lv_iload hx hb dX0_likeliest_13 (lv_at hl 5 rfl) ?_
  refine z_sipush hx hb dX0_likeliest_15 (by decide +kernel) ?_
  refine z_icmp_gt (tgt := 82) hx hb dX0_likeliest_18 (by decide) (by omega) ⟨by decide, by decide⟩ (fun c_1 => ?_) (fun c_1 => ?_)
  · refine lv_lload hx hb dX0_likeliest_82 (lv_at hl 3 rfl) ?_
    exact zr_l hx hb hr hlocks dX0_likeliest_84 (by show f = (lkv n e9z le 200).2; rw [show (200 : Nat) = (v - 1).toNat by omega, ← q2z])
  · refine z_iconst hx hb dX0_likeliest_21 ?_
    refine lv_istore (lv' := [(10, .int (iI 0)), (0, .long (jI n)), (2, .long (jI e9z)), (4, .int (iI le)), (5, .long (jI f)), (7, .long (jI x)), (9, .int (iI v))]) hx hb dX0_likeliest_22 hl (by decide) rfl (fun ls hl => ?_)
    refine z_loop3 (nL := 13) (fun f x p => (0 ≤ p ∧ p ≤ 32) ∧ ((x, f) = lkp n e9z le v p.toNat (lkv n e9z le (v - 1).toNat))) (fun f x p => (32 - p).toNat) (fun f x p => [(0, .long (jI n)), (2, .long (jI e9z)), (4, .int (iI le)), (5, .long (jI f)), (7, .long (jI x)), (9, .int (iI v)), (10, .int (iI p))]) (fun f x p ls hinv hl ih_24 => ?_) f x 0 ls ⟨(by omega), (by exact q2z)⟩ (lv_sub hl [1, 2, 3, 4, 5, 6, 0] rfl)
    have hinv : (0 ≤ p ∧ p ≤ 32) ∧ ((x, f) = lkp n e9z le v p.toNat (lkv n e9z le (v - 1).toNat)) := hinv
    obtain ⟨p1z, p2z⟩ := hinv
    have hl : lv_has ls 13 [(0, .long (jI n)), (2, .long (jI e9z)), (4, .int (iI le)), (5, .long (jI f)), (7, .long (jI x)), (9, .int (iI v)), (10, .int (iI p))] := hl
    have hs := lkp_s n e9z le v (lkv n e9z le (v - 1).toNat) (p := p) p1z.1
    have hr9 := lkp_rng (le := le) (v := v) hn he (by omega) (lkv n e9z le (v - 1).toNat) (lkv_rng le hn he (v - 1).toNat (by omega)) p.toNat
    have hm9 := ms_rng hn he (p := p + le) (v := v) (by omega)
    rw [← p2z] at hs hr9
    dsimp only at hs hr9
    refine lv_iload hx hb dX0_likeliest_24 (lv_at hl 6 rfl) ?_
    refine z_bipush hx hb dX0_likeliest_26 (by decide +kernel) ?_
    refine z_icmp_ge (tgt := 76) hx hb dX0_likeliest_28 (by decide) (by omega) ⟨by decide, by decide⟩ (fun c_2 => ?_) (fun c_2 => ?_)
    · refine z_iinc (k := 5) (lv' := [(9, .int (iI (v + 1))), (0, .long (jI n)), (2, .long (jI e9z)), (4, .int (iI le)), (5, .long (jI f)), (7, .long (jI x)), (10, .int (iI p))]) hx hb dX0_likeliest_76 hl rfl (by decide) rfl (fun ls hl => ?_)
      refine lv_goto (tgt := 13) hx hb dX0_likeliest_79 (by decide) ?_
      have hv9 := lkv_s n e9z le (v := v) (by omega)
      exact ih_13 f x (v + 1) ls ⟨(by omega), (by rw [show v + 1 - 1 = v by omega, hv9, p2z, show p = 32 by omega]; rfl)⟩ (show (201 - (v + 1)).toNat < (201 - v).toNat by omega) (lv_sub hl [1, 2, 3, 4, 5, 0] rfl)
    · refine lv_lload_n hx hb dX0_likeliest_31 rfl (lv_at hl 0 rfl) ?_
      refine lv_lload_n hx hb dX0_likeliest_32 rfl (lv_at hl 1 rfl) ?_
      refine lv_iload hx hb dX0_likeliest_33 (lv_at hl 6 rfl) ?_
      refine lv_iload hx hb dX0_likeliest_35 (lv_at hl 2 rfl) ?_
      refine z_iadd hx hb dX0_likeliest_37 ?_
      refine lv_iload hx hb dX0_likeliest_38 (lv_at hl 5 rfl) ?_
      refine zS_l (As := [.long (jI n), .long (jI e9z), .int (iI (p + le)), .int (iI v)]) (rest := []) ⟨hx, hb, hml, hown, hts⟩ (PZ g) (PZ_blind g) (PZ_mv hZS)  (c_X0_miss l g n e9z (p + le) v (by omega) (by omega)) (va_cwS 4 hts gX0_likeliest_X0_miss rfl rfl rfl (by decide +kernel) ⟨Nat.le_of_ble_eq_true rfl, Nat.le_of_ble_eq_true rfl⟩) rfl hl.1 rfl (Nat.le_of_ble_eq_true rfl) dX0_likeliest_40 ⟨Nat.zero_le _, Nat.zero_le _⟩ ?_
      refine lv_lstore (lv' := [(11, .long (jI (ms n e9z (p + le) v))), (0, .long (jI n)), (2, .long (jI e9z)), (4, .int (iI le)), (5, .long (jI f)), (7, .long (jI x)), (9, .int (iI v)), (10, .int (iI p))]) hx hb dX0_likeliest_43 hl (by decide) rfl (fun ls hl => ?_)
      refine lv_lload hx hb dX0_likeliest_45 (lv_at hl 0 rfl) ?_
      refine lv_lload hx hb dX0_likeliest_47 (lv_at hl 5 rfl) ?_
      refine z_lcmp_ge (tgt := 70) hx hb dX0_likeliest_49 dX0_likeliest_50 (by decide) (by omega) (by omega) (fun c_3 => ?_) (fun c_3 => ?_)
      · refine z_iinc (k := 7) (lv' := [(10, .int (iI (p + 1))), (11, .long (jI (ms n e9z (p + le) v))), (0, .long (jI n)), (2, .long (jI e9z)), (4, .int (iI le)), (5, .long (jI f)), (7, .long (jI x)), (9, .int (iI v))]) hx hb dX0_likeliest_70 hl rfl (by decide) rfl (fun ls hl => ?_)
        refine lv_goto (tgt := 24) hx hb dX0_likeliest_73 (by decide) ?_
        exact ih_24 f x (p + 1) ls ⟨(by omega), (by rw [hs]; first | rw [if_pos (by omega)] | rw [if_neg (by omega)])⟩ (show (32 - (p + 1)).toNat < (32 - p).toNat by omega) (lv_sub hl [2, 3, 4, 5, 6, 7, 0] rfl)
      · refine lv_lload hx hb dX0_likeliest_53 (lv_at hl 0 rfl) ?_
        refine lv_lstore (lv' := [(7, .long (jI (ms n e9z (p + le) v))), (11, .long (jI (ms n e9z (p + le) v))), (0, .long (jI n)), (2, .long (jI e9z)), (4, .int (iI le)), (5, .long (jI f)), (9, .int (iI v)), (10, .int (iI p))]) hx hb dX0_likeliest_55 hl (by decide) rfl (fun ls hl => ?_)
        refine lv_ldc2 (v := jI (1000)) hx hb hown (hts _ m200) dX0_likeliest_57 ?_
        refine lv_iload hx hb dX0_likeliest_60 (lv_at hl 7 rfl) ?_
        refine z_i2l hx hb (by omega) dX0_likeliest_62 ?_
        refine z_lmul hx hb dX0_likeliest_63 ?_
        refine lv_iload hx hb dX0_likeliest_64 (lv_at hl 6 rfl) ?_
        refine z_i2l hx hb (by omega) dX0_likeliest_66 ?_
        refine z_ladd hx hb dX0_likeliest_67 ?_
        refine lv_lstore (lv' := [(5, .long (jI ((1000 * p) + v))), (7, .long (jI (ms n e9z (p + le) v))), (11, .long (jI (ms n e9z (p + le) v))), (0, .long (jI n)), (2, .long (jI e9z)), (4, .int (iI le)), (9, .int (iI v)), (10, .int (iI p))]) hx hb dX0_likeliest_68 hl (by decide) rfl (fun ls hl => ?_)
        refine z_iinc (k := 7) (lv' := [(10, .int (iI (p + 1))), (5, .long (jI ((1000 * p) + v))), (7, .long (jI (ms n e9z (p + le) v))), (11, .long (jI (ms n e9z (p + le) v))), (0, .long (jI n)), (2, .long (jI e9z)), (4, .int (iI le)), (9, .int (iI v))]) hx hb dX0_likeliest_70 hl rfl (by decide) rfl (fun ls hl => ?_)
        refine lv_goto (tgt := 24) hx hb dX0_likeliest_73 (by decide) ?_
        exact ih_24 ((1000 * p) + v) (ms n e9z (p + le) v) (p + 1) ls ⟨(by omega), (by rw [hs]; first | rw [if_pos (by omega)] | rw [if_neg (by omega)])⟩ (show (32 - (p + 1)).toNat < (32 - p).toNat by omega) (lv_sub hl [4, 5, 6, 1, 2, 7, 0] rfl)
