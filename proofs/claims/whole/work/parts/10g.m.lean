/-! the reference, by program (genm.py): X1_distance X1_bearingNow X1_bearing X1_isOtherLost X1_search X1_lostNow X1_findLost X1_mix -/
set_option maxHeartbeats 4000000 in
set_option maxRecDepth 100000 in
theorem c_X1_distance (l : Launch) (g : GG) (u : ST) (v : VT) (a : Int) (b : Int) (hI : Inv u) (hb_a : B32 a) (hb_b : B32 b) : Met l yX1_distance wsX1_distance (k2_rm 7 175) (va_Pc [.ref (gM g 0), .int (iI a), .int (iI b)] (fun U => PM g u v U U.heap)) (vp_Sl (fun r => r = jI (diR u a b))) 0 0 (fun _ => False) := by
  refine Met.ofW (cc := cX1_distance) (maxL := 3) (ret := (some .long)) (by decide) rfl ?_
  intro pp ee s mm args below meth cc9 s₁ B hml hv
  obtain ⟨rfl, hPX⟩ := hv
  obtain ⟨hP, hK⟩ := id hPX
  have hx := B.exec
  have hb := B.bytes
  have hr := B.returns
  have hts := atoms_spec (ws := wsX1_distance) B.pre
  have hown : s.vm.findClass RX1 = some mm.cls := findClass_of_methodNamed B.named
  have hlocks := B.notSynchronized
  have hin : ∀ w ∈ wsX10, w ∈ wsX1_distance := fun w h => List.mem_cons_of_mem _ (List.mem_append_right _ h)
  have m129 : Cond.constantLong RX1 129 (-9000000000000000003) ∈ wsX1_distance := by decide +kernel
  have hi_bl := iv_bl hI
  have hi_pg := iv_pg hI
  have hi_se := iv_se hI
  have hi_dr := iv_dr hI
  have hl := lv_entry ([.ref (gM g 0), .int (iI a), .int (iI b)]) (n := 3) (Nat.le_of_ble_eq_true rfl)
  rw [lg_entry_eq]
  generalize (lg_sl ([.ref (gM g 0), .int (iI a), .int (iI b)]) ++ List.replicate (3 - (lg_sl ([.ref (gM g 0), .int (iI a), .int (iI b)])).length) Slot.unset).toArray = ls at hl ⊢
  have hl : lv_has ls 3 [(0, .ref (gM g 0)), (1, .int (iI a)), (2, .int (iI b))] := hl
  refine lv_aload_n hx hb dX1_distance_0 rfl (lv_at hl 0 rfl) ?_
  refine lv_iload_n hx hb dX1_distance_1 rfl (lv_at hl 1 rfl) ?_
  refine zV_z (As := [.int (iI a)]) (rest := []) ⟨hx, hb, hml, hown, hts⟩ (PM g u v) (PM_blind g u v) (PM_mv hP hK) (rcM hK hP) (c_X1_isMoment l g u v a hI (by omega)) (cwV 1 hts gX1_distance_X1_isMoment rfl rfl rfl (by decide +kernel) ⟨Nat.le_of_ble_eq_true rfl, Nat.le_of_ble_eq_true rfl⟩) rfl hl.1 rfl (Nat.le_of_ble_eq_true rfl) dX1_distance_2 ⟨Nat.zero_le _, Nat.zero_le _⟩ (fun c_1 => ?_) (fun c_1 => ?_)
  · refine z_if_eq (tgt := 25) hx hb dX1_distance_5 (by decide) ⟨by decide, by decide⟩ (fun c_2 => (absurd c_2 (by decide))) (fun c_2 => ?_)
    refine lv_aload_n hx hb dX1_distance_8 rfl (lv_at hl 0 rfl) ?_
    refine lv_iload_n hx hb dX1_distance_9 rfl (lv_at hl 2 rfl) ?_
    refine zV_z (As := [.int (iI b)]) (rest := []) ⟨hx, hb, hml, hown, hts⟩ (PM g u v) (PM_blind g u v) (PM_mv hP hK) (rcM hK hP) (c_X1_isMoment l g u v b hI (by omega)) (cwV 1 hts gX1_distance_X1_isMoment rfl rfl rfl (by decide +kernel) ⟨Nat.le_of_ble_eq_true rfl, Nat.le_of_ble_eq_true rfl⟩) rfl hl.1 rfl (Nat.le_of_ble_eq_true rfl) dX1_distance_10 ⟨Nat.zero_le _, Nat.zero_le _⟩ (fun c_3 => ?_) (fun c_3 => ?_)
    · refine z_if_eq (tgt := 25) hx hb dX1_distance_13 (by decide) ⟨by decide, by decide⟩ (fun c_4 => (absurd c_4 (by decide))) (fun c_4 => ?_)
      refine lv_aload_n hx hb dX1_distance_16 rfl (lv_at hl 0 rfl) ?_
      refine lv_iload_n hx hb dX1_distance_17 rfl (lv_at hl 1 rfl) ?_
      refine lv_iload_n hx hb dX1_distance_18 rfl (lv_at hl 2 rfl) ?_
      refine zV_l (As := [.int (iI a), .int (iI b)]) (rest := []) ⟨hx, hb, hml, hown, hts⟩ (PM g u v) (PM_blind g u v) (PM_mv hP hK) (rcM hK hP) (c_X1_distanceNow l g u v a b hI (by omega) (by omega)) (cwV 2 hts gX1_distance_X1_distanceNow rfl rfl rfl (by decide +kernel) ⟨Nat.le_of_ble_eq_true rfl, Nat.le_of_ble_eq_true rfl⟩) rfl hl.1 rfl (Nat.le_of_ble_eq_true rfl) dX1_distance_19 ⟨Nat.zero_le _, Nat.zero_le _⟩ ?_
      refine lv_goto (tgt := 28) hx hb dX1_distance_22 (by decide) ?_
      exact zr_l hx hb hr hlocks dX1_distance_28 (by unfold diR eNM; split <;> first | (exfalso; omega) | rfl)
    · refine z_if_eq (tgt := 25) hx hb dX1_distance_13 (by decide) ⟨by decide, by decide⟩ (fun c_5 => ?_) (fun c_5 => (absurd c_5 (by decide)))
      refine lv_ldc2 (v := jI (-9000000000000000003)) hx hb hown (hts _ m129) dX1_distance_25 ?_
      exact zr_l hx hb hr hlocks dX1_distance_28 (by unfold diR eNM; split <;> first | (exfalso; omega) | rfl)
  · refine z_if_eq (tgt := 25) hx hb dX1_distance_5 (by decide) ⟨by decide, by decide⟩ (fun c_6 => ?_) (fun c_6 => (absurd c_6 (by decide)))
    refine lv_ldc2 (v := jI (-9000000000000000003)) hx hb hown (hts _ m129) dX1_distance_25 ?_
    exact zr_l hx hb hr hlocks dX1_distance_28 (by unfold diR eNM; split <;> first | (exfalso; omega) | rfl)
set_option maxHeartbeats 4000000 in
set_option maxRecDepth 100000 in
theorem c_X1_bearingNow (l : Launch) (g : GG) (u : ST) (v : VT) (a : Int) (b : Int) (hI : Inv u) (k0z : 0 ≤ a ∧ a ≤ zpg u) (k1z : 0 ≤ b ∧ b ≤ zpg u) : Met l yX1_bearingNow wsX1_bearingNow (k2_rm 6 141) (va_Pc [.ref (gM g 0), .int (iI a), .int (iI b)] (fun U => PM g u v U U.heap)) (vp_Sl (fun r => r = jI (br u a b))) 0 0 (fun _ => False) := by
  refine Met.ofW (cc := cX1_bearingNow) (maxL := 9) (ret := (some .long)) (by decide) rfl ?_
  intro pp ee s mm args below meth cc9 s₁ B hml hv
  obtain ⟨rfl, hPX⟩ := hv
  obtain ⟨hP, hK⟩ := id hPX
  have hx := B.exec
  have hb := B.bytes
  have hr := B.returns
  have hts := atoms_spec (ws := wsX1_bearingNow) B.pre
  have hown : s.vm.findClass RX1 = some mm.cls := findClass_of_methodNamed B.named
  have hlocks := B.notSynchronized
  have hin : ∀ w ∈ wsX10, w ∈ wsX1_bearingNow := fun w h => List.mem_cons_of_mem _ (List.mem_append_right _ h)
  have m108 : Cond.constantLong RX1 108 (-9000000000000000007) ∈ wsX1_bearingNow := by decide +kernel
  have hi_bl := iv_bl hI
  have hi_pg := iv_pg hI
  have hi_se := iv_se hI
  have hi_dr := iv_dr hI
  have hd8 := df_rng hI 8 k0z k1z
  have hd0 := df_rng hI 0 k0z k1z
  have hl := lv_entry ([.ref (gM g 0), .int (iI a), .int (iI b)]) (n := 9) (Nat.le_of_ble_eq_true rfl)
  rw [lg_entry_eq]
  generalize (lg_sl ([.ref (gM g 0), .int (iI a), .int (iI b)]) ++ List.replicate (9 - (lg_sl ([.ref (gM g 0), .int (iI a), .int (iI b)])).length) Slot.unset).toArray = ls at hl ⊢
  have hl : lv_has ls 9 [(0, .ref (gM g 0)), (1, .int (iI a)), (2, .int (iI b))] := hl
  refine lv_aload_n hx hb dX1_bearingNow_0 rfl (lv_at hl 0 rfl) ?_
  refine lv_iload_n hx hb dX1_bearingNow_1 rfl (lv_at hl 2 rfl) ?_
  refine z_iconst hx hb dX1_bearingNow_2 ?_
  refine zV_l (As := [.int (iI b), .int (iI 0)]) (rest := []) ⟨hx, hb, hml, hown, hts⟩ (PM g u v) (PM_blind g u v) (PM_mv hP hK) (rcM hK hP) (c_X1_corrected l g u v b 0 8 hI (by omega) (by omega) (by omega)) (cwV 2 hts gX1_bearingNow_X1_corrected rfl rfl rfl (by decide +kernel) ⟨Nat.le_of_ble_eq_true rfl, Nat.le_of_ble_eq_true rfl⟩) rfl hl.1 rfl (Nat.le_of_ble_eq_true rfl) dX1_bearingNow_3 ⟨Nat.zero_le _, Nat.zero_le _⟩ ?_
  refine lv_aload_n hx hb dX1_bearingNow_6 rfl (lv_at hl 0 rfl) ?_
  refine lv_iload_n hx hb dX1_bearingNow_7 rfl (lv_at hl 1 rfl) ?_
  refine z_iconst hx hb dX1_bearingNow_8 ?_
  refine zV_l (As := [.int (iI a), .int (iI 0)]) (rest := [.long (jI (co u 8 b))]) ⟨hx, hb, hml, hown, hts⟩ (PM g u v) (PM_blind g u v) (PM_mv hP hK) (rcM hK hP) (c_X1_corrected l g u v a 0 8 hI (by omega) (by omega) (by omega)) (cwV 2 hts gX1_bearingNow_X1_corrected rfl rfl rfl (by decide +kernel) ⟨Nat.le_of_ble_eq_true rfl, Nat.le_of_ble_eq_true rfl⟩) rfl hl.1 rfl (Nat.le_of_ble_eq_true rfl) dX1_bearingNow_9 ⟨Nat.zero_le _, Nat.zero_le _⟩ ?_
  refine z_lsub hx hb dX1_bearingNow_12 ?_
  obtain ⟨n9z, hn9⟩ : ∃ z9z : Int, z9z = (co u 8 b) - (co u 8 a) := ⟨_, rfl⟩
  rw [← hn9]
  have hn8 : n9z = df u 8 a b := hn9
  refine lv_lstore_n (lv' := [(3, .long (jI n9z)), (0, .ref (gM g 0)), (1, .int (iI a)), (2, .int (iI b))]) hx hb dX1_bearingNow_13 rfl hl (by decide) rfl (fun ls hl => ?_)
  refine lv_aload_n hx hb dX1_bearingNow_14 rfl (lv_at hl 1 rfl) ?_
  refine lv_iload_n hx hb dX1_bearingNow_15 rfl (lv_at hl 3 rfl) ?_
  refine z_iconst hx hb dX1_bearingNow_16 ?_
  refine zV_l (As := [.int (iI b), .int (iI 1)]) (rest := []) ⟨hx, hb, hml, hown, hts⟩ (PM g u v) (PM_blind g u v) (PM_mv hP hK) (rcM hK hP) (c_X1_corrected l g u v b 1 0 hI (by omega) (by omega) (by omega)) (cwV 2 hts gX1_bearingNow_X1_corrected rfl rfl rfl (by decide +kernel) ⟨Nat.le_of_ble_eq_true rfl, Nat.le_of_ble_eq_true rfl⟩) rfl hl.1 rfl (Nat.le_of_ble_eq_true rfl) dX1_bearingNow_17 ⟨Nat.zero_le _, Nat.zero_le _⟩ ?_
  refine lv_aload_n hx hb dX1_bearingNow_20 rfl (lv_at hl 1 rfl) ?_
  refine lv_iload_n hx hb dX1_bearingNow_21 rfl (lv_at hl 2 rfl) ?_
  refine z_iconst hx hb dX1_bearingNow_22 ?_
  refine zV_l (As := [.int (iI a), .int (iI 1)]) (rest := [.long (jI (co u 0 b))]) ⟨hx, hb, hml, hown, hts⟩ (PM g u v) (PM_blind g u v) (PM_mv hP hK) (rcM hK hP) (c_X1_corrected l g u v a 1 0 hI (by omega) (by omega) (by omega)) (cwV 2 hts gX1_bearingNow_X1_corrected rfl rfl rfl (by decide +kernel) ⟨Nat.le_of_ble_eq_true rfl, Nat.le_of_ble_eq_true rfl⟩) rfl hl.1 rfl (Nat.le_of_ble_eq_true rfl) dX1_bearingNow_23 ⟨Nat.zero_le _, Nat.zero_le _⟩ ?_
  refine z_lsub hx hb dX1_bearingNow_26 ?_
  obtain ⟨e9z, he9⟩ : ∃ z9z : Int, z9z = (co u 0 b) - (co u 0 a) := ⟨_, rfl⟩
  rw [← he9]
  have he8 : e9z = df u 0 a b := he9
  refine lv_lstore (lv' := [(5, .long (jI e9z)), (3, .long (jI n9z)), (0, .ref (gM g 0)), (1, .int (iI a)), (2, .int (iI b))]) hx hb dX1_bearingNow_27 hl (by decide) rfl (fun ls hl => ?_)
  refine lv_lload_n hx hb dX1_bearingNow_29 rfl (lv_at hl 1 rfl) ?_
  refine z_lconst (z := 0) hx hb dX1_bearingNow_30 rfl ?_
  refine z_lcmp_ne (tgt := 46) hx hb dX1_bearingNow_31 dX1_bearingNow_32 (by decide) (by omega) ⟨by decide, by decide⟩ (fun c_1 => ?_) (fun c_1 => ?_)
  · refine z_iconst hx hb dX1_bearingNow_46 ?_
    refine lv_istore (lv' := [(7, .int (iI 0)), (5, .long (jI e9z)), (3, .long (jI n9z)), (0, .ref (gM g 0)), (1, .int (iI a)), (2, .int (iI b))]) hx hb dX1_bearingNow_47 hl (by decide) rfl (fun ls hl => ?_)
    refine z_iconst hx hb dX1_bearingNow_49 ?_
    refine lv_istore (lv' := [(8, .int (iI 1)), (7, .int (iI 0)), (5, .long (jI e9z)), (3, .long (jI n9z)), (0, .ref (gM g 0)), (1, .int (iI a)), (2, .int (iI b))]) hx hb dX1_bearingNow_50 hl (by decide) rfl (fun ls hl => ?_)
    refine z_loop2 (nL := 9) (fun f q => (1 ≤ q ∧ q ≤ 32) ∧ (f = npn n9z e9z (q - 1).toNat) ∧ (0 ≤ f ∧ f ≤ 31)) (fun f q => (32 - q).toNat) (fun f q => [(0, .ref (gM g 0)), (1, .int (iI a)), (2, .int (iI b)), (3, .long (jI n9z)), (5, .long (jI e9z)), (7, .int (iI f)), (8, .int (iI q))]) (fun f q ls hinv hl ih_52 => ?_) 0 1 ls ⟨(by omega), (by rfl), (by omega)⟩ (lv_sub hl [4, 5, 6, 3, 2, 1, 0] rfl)
    have hinv : (1 ≤ q ∧ q ≤ 32) ∧ (f = npn n9z e9z (q - 1).toNat) ∧ (0 ≤ f ∧ f ≤ 31) := hinv
    obtain ⟨q1z, q2z, q3z⟩ := hinv
    have hl : lv_has ls 9 [(0, .ref (gM g 0)), (1, .int (iI a)), (2, .int (iI b)), (3, .long (jI n9z)), (5, .long (jI e9z)), (7, .int (iI f)), (8, .int (iI q))] := hl
    have hs := npn_s n9z e9z (k := q - 1) (by omega)
    have ha1 := adv_rng (n := n9z) (e := e9z) (by omega) (by omega) q
    have ha2 := adv_rng (n := n9z) (e := e9z) (by omega) (by omega) f
    rw [show q - 1 + 1 = q by omega, ← q2z] at hs
    refine lv_iload hx hb dX1_bearingNow_52 (lv_at hl 6 rfl) ?_
    refine z_bipush hx hb dX1_bearingNow_54 (by decide +kernel) ?_
    refine z_icmp_ge (tgt := 114) hx hb dX1_bearingNow_56 (by decide) (by omega) ⟨by decide, by decide⟩ (fun c_2 => ?_) (fun c_2 => ?_)
    · refine lv_iload hx hb dX1_bearingNow_114 (lv_at hl 5 rfl) ?_
      refine z_i2l hx hb (by omega) dX1_bearingNow_116 ?_
      exact zr_l hx hb hr hlocks dX1_bearingNow_117 (by unfold br; rw [if_neg (by omega), ← hn8, ← he8, q2z, show q = 32 by omega]; rfl)
    · have ea1 := adv_m (n := n9z) (e := e9z) (p := q) (by omega)
      have ea2 := adv_m (n := n9z) (e := e9z) (p := f) (by omega)
      have hr1 := sn_rng ((q + 8) % 32)
      have hr2 := sn_rng q
      have hr3 := sn_rng ((f + 8) % 32)
      have hr4 := sn_rng f
      refine lv_lload_n hx hb dX1_bearingNow_59 rfl (lv_at hl 3 rfl) ?_
      refine lv_iload hx hb dX1_bearingNow_60 (lv_at hl 6 rfl) ?_
      refine zS_i (As := [.int (iI q)]) (rest := [.long (jI n9z)]) ⟨hx, hb, hml, hown, hts⟩ (PT) PT_blind PT_mv  (c_X1_cosine l g q (by omega) (by omega)) (va_cwS 1 hts gX1_bearingNow_X1_cosine rfl rfl rfl (by decide +kernel) ⟨Nat.le_of_ble_eq_true rfl, Nat.le_of_ble_eq_true rfl⟩) rfl hl.1 rfl (Nat.le_of_ble_eq_true rfl) dX1_bearingNow_62 ⟨Nat.zero_le _, Nat.zero_le _⟩ ?_
      refine z_i2l hx hb (by omega) dX1_bearingNow_65 ?_
      refine z_lmul hx hb dX1_bearingNow_66 ?_
      refine lv_lload hx hb dX1_bearingNow_67 (lv_at hl 4 rfl) ?_
      refine lv_iload hx hb dX1_bearingNow_69 (lv_at hl 6 rfl) ?_
      refine zS_i (As := [.int (iI q)]) (rest := [.long (jI e9z), .long (jI (n9z * (sn ((q + 8) % 32))))]) ⟨hx, hb, hml, hown, hts⟩ (PT) PT_blind PT_mv  (c_X1_sine l g q (by omega) (by omega)) (va_cwS 1 hts gX1_bearingNow_X1_sine rfl rfl rfl (by decide +kernel) ⟨Nat.le_of_ble_eq_true rfl, Nat.le_of_ble_eq_true rfl⟩) rfl hl.1 rfl (Nat.le_of_ble_eq_true rfl) dX1_bearingNow_71 ⟨Nat.zero_le _, Nat.zero_le _⟩ ?_
      refine z_i2l hx hb (by omega) dX1_bearingNow_74 ?_
      refine z_lmul hx hb dX1_bearingNow_75 ?_
      refine z_ladd hx hb dX1_bearingNow_76 ?_
      refine lv_lload_n hx hb dX1_bearingNow_77 rfl (lv_at hl 3 rfl) ?_
      refine lv_iload hx hb dX1_bearingNow_78 (lv_at hl 5 rfl) ?_
      refine zS_i (As := [.int (iI f)]) (rest := [.long (jI n9z), .long (jI ((n9z * (sn ((q + 8) % 32))) + (e9z * (sn q))))]) ⟨hx, hb, hml, hown, hts⟩ (PT) PT_blind PT_mv  (c_X1_cosine l g f (by omega) (by omega)) (va_cwS 1 hts gX1_bearingNow_X1_cosine rfl rfl rfl (by decide +kernel) ⟨Nat.le_of_ble_eq_true rfl, Nat.le_of_ble_eq_true rfl⟩) rfl hl.1 rfl (Nat.le_of_ble_eq_true rfl) dX1_bearingNow_80 ⟨Nat.zero_le _, Nat.zero_le _⟩ ?_
      refine z_i2l hx hb (by omega) dX1_bearingNow_83 ?_
      refine z_lmul hx hb dX1_bearingNow_84 ?_
      refine lv_lload hx hb dX1_bearingNow_85 (lv_at hl 4 rfl) ?_
      refine lv_iload hx hb dX1_bearingNow_87 (lv_at hl 5 rfl) ?_
      refine zS_i (As := [.int (iI f)]) (rest := [.long (jI e9z), .long (jI (n9z * (sn ((f + 8) % 32)))), .long (jI ((n9z * (sn ((q + 8) % 32))) + (e9z * (sn q))))]) ⟨hx, hb, hml, hown, hts⟩ (PT) PT_blind PT_mv  (c_X1_sine l g f (by omega) (by omega)) (va_cwS 1 hts gX1_bearingNow_X1_sine rfl rfl rfl (by decide +kernel) ⟨Nat.le_of_ble_eq_true rfl, Nat.le_of_ble_eq_true rfl⟩) rfl hl.1 rfl (Nat.le_of_ble_eq_true rfl) dX1_bearingNow_89 ⟨Nat.zero_le _, Nat.zero_le _⟩ ?_
      refine z_i2l hx hb (by omega) dX1_bearingNow_92 ?_
      refine z_lmul hx hb dX1_bearingNow_93 ?_
      refine z_ladd hx hb dX1_bearingNow_94 ?_
      refine z_lcmp_le (tgt := 104) hx hb dX1_bearingNow_95 dX1_bearingNow_96 (by decide) (by omega) (by omega) (fun c_3 => ?_) (fun c_3 => ?_)
      · refine lv_iload hx hb dX1_bearingNow_104 (lv_at hl 5 rfl) ?_
        refine lv_istore (lv' := [(7, .int (iI f)), (0, .ref (gM g 0)), (1, .int (iI a)), (2, .int (iI b)), (3, .long (jI n9z)), (5, .long (jI e9z)), (8, .int (iI q))]) hx hb dX1_bearingNow_106 hl (by decide) rfl (fun ls hl => ?_)
        refine z_iinc (k := 6) (lv' := [(8, .int (iI (q + 1))), (7, .int (iI f)), (0, .ref (gM g 0)), (1, .int (iI a)), (2, .int (iI b)), (3, .long (jI n9z)), (5, .long (jI e9z))]) hx hb dX1_bearingNow_108 hl rfl (by decide) rfl (fun ls hl => ?_)
        refine lv_goto (tgt := 52) hx hb dX1_bearingNow_111 (by decide) ?_
        exact ih_52 f (q + 1) ls ⟨(by omega), (by rw [show q + 1 - 1 = q by omega, hs]; first | rw [if_pos (by omega)] | rw [if_neg (by omega)]), (by omega)⟩ (show (32 - (q + 1)).toNat < (32 - q).toNat by omega) (lv_sub hl [2, 3, 4, 5, 6, 1, 0] rfl)
      · refine lv_iload hx hb dX1_bearingNow_99 (lv_at hl 6 rfl) ?_
        refine lv_goto (tgt := 106) hx hb dX1_bearingNow_101 (by decide) ?_
        refine lv_istore (lv' := [(7, .int (iI q)), (0, .ref (gM g 0)), (1, .int (iI a)), (2, .int (iI b)), (3, .long (jI n9z)), (5, .long (jI e9z)), (8, .int (iI q))]) hx hb dX1_bearingNow_106 hl (by decide) rfl (fun ls hl => ?_)
        refine z_iinc (k := 6) (lv' := [(8, .int (iI (q + 1))), (7, .int (iI q)), (0, .ref (gM g 0)), (1, .int (iI a)), (2, .int (iI b)), (3, .long (jI n9z)), (5, .long (jI e9z))]) hx hb dX1_bearingNow_108 hl rfl (by decide) rfl (fun ls hl => ?_)
        refine lv_goto (tgt := 52) hx hb dX1_bearingNow_111 (by decide) ?_
        exact ih_52 q (q + 1) ls ⟨(by omega), (by rw [show q + 1 - 1 = q by omega, hs]; first | rw [if_pos (by omega)] | rw [if_neg (by omega)]), (by omega)⟩ (show (32 - (q + 1)).toNat < (32 - q).toNat by omega) (lv_sub hl [2, 3, 4, 5, 6, 1, 0] rfl)
  · refine lv_lload hx hb dX1_bearingNow_35 (lv_at hl 0 rfl) ?_
    refine z_lconst (z := 0) hx hb dX1_bearingNow_37 rfl ?_
    refine z_lcmp_ne (tgt := 46) hx hb dX1_bearingNow_38 dX1_bearingNow_39 (by decide) (by omega) ⟨by decide, by decide⟩ (fun c_4 => ?_) (fun c_4 => ?_)
    · refine z_iconst hx hb dX1_bearingNow_46 ?_
      refine lv_istore (lv' := [(7, .int (iI 0)), (5, .long (jI e9z)), (3, .long (jI n9z)), (0, .ref (gM g 0)), (1, .int (iI a)), (2, .int (iI b))]) hx hb dX1_bearingNow_47 hl (by decide) rfl (fun ls hl => ?_)
      refine z_iconst hx hb dX1_bearingNow_49 ?_
      refine lv_istore (lv' := [(8, .int (iI 1)), (7, .int (iI 0)), (5, .long (jI e9z)), (3, .long (jI n9z)), (0, .ref (gM g 0)), (1, .int (iI a)), (2, .int (iI b))]) hx hb dX1_bearingNow_50 hl (by decide) rfl (fun ls hl => ?_)
      refine z_loop2 (nL := 9) (fun f q => (1 ≤ q ∧ q ≤ 32) ∧ (f = npn n9z e9z (q - 1).toNat) ∧ (0 ≤ f ∧ f ≤ 31)) (fun f q => (32 - q).toNat) (fun f q => [(0, .ref (gM g 0)), (1, .int (iI a)), (2, .int (iI b)), (3, .long (jI n9z)), (5, .long (jI e9z)), (7, .int (iI f)), (8, .int (iI q))]) (fun f q ls hinv hl ih_52 => ?_) 0 1 ls ⟨(by omega), (by rfl), (by omega)⟩ (lv_sub hl [4, 5, 6, 3, 2, 1, 0] rfl)
      have hinv : (1 ≤ q ∧ q ≤ 32) ∧ (f = npn n9z e9z (q - 1).toNat) ∧ (0 ≤ f ∧ f ≤ 31) := hinv
      obtain ⟨q1z, q2z, q3z⟩ := hinv
      have hl : lv_has ls 9 [(0, .ref (gM g 0)), (1, .int (iI a)), (2, .int (iI b)), (3, .long (jI n9z)), (5, .long (jI e9z)), (7, .int (iI f)), (8, .int (iI q))] := hl
      have hs := npn_s n9z e9z (k := q - 1) (by omega)
      have ha1 := adv_rng (n := n9z) (e := e9z) (by omega) (by omega) q
      have ha2 := adv_rng (n := n9z) (e := e9z) (by omega) (by omega) f
      rw [show q - 1 + 1 = q by omega, ← q2z] at hs
      refine lv_iload hx hb dX1_bearingNow_52 (lv_at hl 6 rfl) ?_
      refine z_bipush hx hb dX1_bearingNow_54 (by decide +kernel) ?_
      refine z_icmp_ge (tgt := 114) hx hb dX1_bearingNow_56 (by decide) (by omega) ⟨by decide, by decide⟩ (fun c_5 => ?_) (fun c_5 => ?_)
      · refine lv_iload hx hb dX1_bearingNow_114 (lv_at hl 5 rfl) ?_
        refine z_i2l hx hb (by omega) dX1_bearingNow_116 ?_
        exact zr_l hx hb hr hlocks dX1_bearingNow_117 (by unfold br; rw [if_neg (by omega), ← hn8, ← he8, q2z, show q = 32 by omega]; rfl)
      · have ea1 := adv_m (n := n9z) (e := e9z) (p := q) (by omega)
        have ea2 := adv_m (n := n9z) (e := e9z) (p := f) (by omega)
        have hr1 := sn_rng ((q + 8) % 32)
        have hr2 := sn_rng q
        have hr3 := sn_rng ((f + 8) % 32)
        have hr4 := sn_rng f
        refine lv_lload_n hx hb dX1_bearingNow_59 rfl (lv_at hl 3 rfl) ?_
        refine lv_iload hx hb dX1_bearingNow_60 (lv_at hl 6 rfl) ?_
        refine zS_i (As := [.int (iI q)]) (rest := [.long (jI n9z)]) ⟨hx, hb, hml, hown, hts⟩ (PT) PT_blind PT_mv  (c_X1_cosine l g q (by omega) (by omega)) (va_cwS 1 hts gX1_bearingNow_X1_cosine rfl rfl rfl (by decide +kernel) ⟨Nat.le_of_ble_eq_true rfl, Nat.le_of_ble_eq_true rfl⟩) rfl hl.1 rfl (Nat.le_of_ble_eq_true rfl) dX1_bearingNow_62 ⟨Nat.zero_le _, Nat.zero_le _⟩ ?_
        refine z_i2l hx hb (by omega) dX1_bearingNow_65 ?_
        refine z_lmul hx hb dX1_bearingNow_66 ?_
        refine lv_lload hx hb dX1_bearingNow_67 (lv_at hl 4 rfl) ?_
        refine lv_iload hx hb dX1_bearingNow_69 (lv_at hl 6 rfl) ?_
        refine zS_i (As := [.int (iI q)]) (rest := [.long (jI e9z), .long (jI (n9z * (sn ((q + 8) % 32))))]) ⟨hx, hb, hml, hown, hts⟩ (PT) PT_blind PT_mv  (c_X1_sine l g q (by omega) (by omega)) (va_cwS 1 hts gX1_bearingNow_X1_sine rfl rfl rfl (by decide +kernel) ⟨Nat.le_of_ble_eq_true rfl, Nat.le_of_ble_eq_true rfl⟩) rfl hl.1 rfl (Nat.le_of_ble_eq_true rfl) dX1_bearingNow_71 ⟨Nat.zero_le _, Nat.zero_le _⟩ ?_
        refine z_i2l hx hb (by omega) dX1_bearingNow_74 ?_
        refine z_lmul hx hb dX1_bearingNow_75 ?_
        refine z_ladd hx hb dX1_bearingNow_76 ?_
        refine lv_lload_n hx hb dX1_bearingNow_77 rfl (lv_at hl 3 rfl) ?_
        refine lv_iload hx hb dX1_bearingNow_78 (lv_at hl 5 rfl) ?_
        refine zS_i (As := [.int (iI f)]) (rest := [.long (jI n9z), .long (jI ((n9z * (sn ((q + 8) % 32))) + (e9z * (sn q))))]) ⟨hx, hb, hml, hown, hts⟩ (PT) PT_blind PT_mv  (c_X1_cosine l g f (by omega) (by omega)) (va_cwS 1 hts gX1_bearingNow_X1_cosine rfl rfl rfl (by decide +kernel) ⟨Nat.le_of_ble_eq_true rfl, Nat.le_of_ble_eq_true rfl⟩) rfl hl.1 rfl (Nat.le_of_ble_eq_true rfl) dX1_bearingNow_80 ⟨Nat.zero_le _, Nat.zero_le _⟩ ?_
        refine z_i2l hx hb (by omega) dX1_bearingNow_83 ?_
        refine z_lmul hx hb dX1_bearingNow_84 ?_
        refine lv_lload hx hb dX1_bearingNow_85 (lv_at hl 4 rfl) ?_
        refine lv_iload hx hb dX1_bearingNow_87 (lv_at hl 5 rfl) ?_
        refine zS_i (As := [.int (iI f)]) (rest := [.long (jI e9z), .long (jI (n9z * (sn ((f + 8) % 32)))), .long (jI ((n9z * (sn ((q + 8) % 32))) + (e9z * (sn q))))]) ⟨hx, hb, hml, hown, hts⟩ (PT) PT_blind PT_mv  (c_X1_sine l g f (by omega) (by omega)) (va_cwS 1 hts gX1_bearingNow_X1_sine rfl rfl rfl (by decide +kernel) ⟨Nat.le_of_ble_eq_true rfl, Nat.le_of_ble_eq_true rfl⟩) rfl hl.1 rfl (Nat.le_of_ble_eq_true rfl) dX1_bearingNow_89 ⟨Nat.zero_le _, Nat.zero_le _⟩ ?_
        refine z_i2l hx hb (by omega) dX1_bearingNow_92 ?_
        refine z_lmul hx hb dX1_bearingNow_93 ?_
        refine z_ladd hx hb dX1_bearingNow_94 ?_
        refine z_lcmp_le (tgt := 104) hx hb dX1_bearingNow_95 dX1_bearingNow_96 (by decide) (by omega) (by omega) (fun c_6 => ?_) (fun c_6 => ?_)
        · refine lv_iload hx hb dX1_bearingNow_104 (lv_at hl 5 rfl) ?_
          refine lv_istore (lv' := [(7, .int (iI f)), (0, .ref (gM g 0)), (1, .int (iI a)), (2, .int (iI b)), (3, .long (jI n9z)), (5, .long (jI e9z)), (8, .int (iI q))]) hx hb dX1_bearingNow_106 hl (by decide) rfl (fun ls hl => ?_)
          refine z_iinc (k := 6) (lv' := [(8, .int (iI (q + 1))), (7, .int (iI f)), (0, .ref (gM g 0)), (1, .int (iI a)), (2, .int (iI b)), (3, .long (jI n9z)), (5, .long (jI e9z))]) hx hb dX1_bearingNow_108 hl rfl (by decide) rfl (fun ls hl => ?_)
          refine lv_goto (tgt := 52) hx hb dX1_bearingNow_111 (by decide) ?_
          exact ih_52 f (q + 1) ls ⟨(by omega), (by rw [show q + 1 - 1 = q by omega, hs]; first | rw [if_pos (by omega)] | rw [if_neg (by omega)]), (by omega)⟩ (show (32 - (q + 1)).toNat < (32 - q).toNat by omega) (lv_sub hl [2, 3, 4, 5, 6, 1, 0] rfl)
        · refine lv_iload hx hb dX1_bearingNow_99 (lv_at hl 6 rfl) ?_
          refine lv_goto (tgt := 106) hx hb dX1_bearingNow_101 (by decide) ?_
          refine lv_istore (lv' := [(7, .int (iI q)), (0, .ref (gM g 0)), (1, .int (iI a)), (2, .int (iI b)), (3, .long (jI n9z)), (5, .long (jI e9z)), (8, .int (iI q))]) hx hb dX1_bearingNow_106 hl (by decide) rfl (fun ls hl => ?_)
          refine z_iinc (k := 6) (lv' := [(8, .int (iI (q + 1))), (7, .int (iI q)), (0, .ref (gM g 0)), (1, .int (iI a)), (2, .int (iI b)), (3, .long (jI n9z)), (5, .long (jI e9z))]) hx hb dX1_bearingNow_108 hl rfl (by decide) rfl (fun ls hl => ?_)
          refine lv_goto (tgt := 52) hx hb dX1_bearingNow_111 (by decide) ?_
          exact ih_52 q (q + 1) ls ⟨(by omega), (by rw [show q + 1 - 1 = q by omega, hs]; first | rw [if_pos (by omega)] | rw [if_neg (by omega)]), (by omega)⟩ (show (32 - (q + 1)).toNat < (32 - q).toNat by omega) (lv_sub hl [2, 3, 4, 5, 6, 1, 0] rfl)
    · refine lv_ldc2 (v := jI (-9000000000000000007)) hx hb hown (hts _ m108) dX1_bearingNow_42 ?_
      exact zr_l hx hb hr hlocks dX1_bearingNow_45 (by unfold br; rw [if_pos (by omega)]; rfl)
set_option maxHeartbeats 4000000 in
set_option maxRecDepth 100000 in
theorem c_X1_bearing (l : Launch) (g : GG) (u : ST) (v : VT) (a : Int) (b : Int) (hI : Inv u) (hb_a : B32 a) (hb_b : B32 b) : Met l yX1_bearing wsX1_bearing (k2_rm 7 169) (va_Pc [.ref (gM g 0), .int (iI a), .int (iI b)] (fun U => PM g u v U U.heap)) (vp_Sl (fun r => r = jI (brR u a b))) 0 0 (fun _ => False) := by
  refine Met.ofW (cc := cX1_bearing) (maxL := 3) (ret := (some .long)) (by decide) rfl ?_
  intro pp ee s mm args below meth cc9 s₁ B hml hv
  obtain ⟨rfl, hPX⟩ := hv
  obtain ⟨hP, hK⟩ := id hPX
  have hx := B.exec
  have hb := B.bytes
  have hr := B.returns
  have hts := atoms_spec (ws := wsX1_bearing) B.pre
  have hown : s.vm.findClass RX1 = some mm.cls := findClass_of_methodNamed B.named
  have hlocks := B.notSynchronized
  have hin : ∀ w ∈ wsX10, w ∈ wsX1_bearing := fun w h => List.mem_cons_of_mem _ (List.mem_append_right _ h)
  have m129 : Cond.constantLong RX1 129 (-9000000000000000003) ∈ wsX1_bearing := by decide +kernel
  have hi_bl := iv_bl hI
  have hi_pg := iv_pg hI
  have hi_se := iv_se hI
  have hi_dr := iv_dr hI
  have hl := lv_entry ([.ref (gM g 0), .int (iI a), .int (iI b)]) (n := 3) (Nat.le_of_ble_eq_true rfl)
  rw [lg_entry_eq]
  generalize (lg_sl ([.ref (gM g 0), .int (iI a), .int (iI b)]) ++ List.replicate (3 - (lg_sl ([.ref (gM g 0), .int (iI a), .int (iI b)])).length) Slot.unset).toArray = ls at hl ⊢
  have hl : lv_has ls 3 [(0, .ref (gM g 0)), (1, .int (iI a)), (2, .int (iI b))] := hl
  refine lv_aload_n hx hb dX1_bearing_0 rfl (lv_at hl 0 rfl) ?_
  refine lv_iload_n hx hb dX1_bearing_1 rfl (lv_at hl 1 rfl) ?_
  refine zV_z (As := [.int (iI a)]) (rest := []) ⟨hx, hb, hml, hown, hts⟩ (PM g u v) (PM_blind g u v) (PM_mv hP hK) (rcM hK hP) (c_X1_isMoment l g u v a hI (by omega)) (cwV 1 hts gX1_bearing_X1_isMoment rfl rfl rfl (by decide +kernel) ⟨Nat.le_of_ble_eq_true rfl, Nat.le_of_ble_eq_true rfl⟩) rfl hl.1 rfl (Nat.le_of_ble_eq_true rfl) dX1_bearing_2 ⟨Nat.zero_le _, Nat.zero_le _⟩ (fun c_1 => ?_) (fun c_1 => ?_)
  · refine z_if_eq (tgt := 25) hx hb dX1_bearing_5 (by decide) ⟨by decide, by decide⟩ (fun c_2 => (absurd c_2 (by decide))) (fun c_2 => ?_)
    refine lv_aload_n hx hb dX1_bearing_8 rfl (lv_at hl 0 rfl) ?_
    refine lv_iload_n hx hb dX1_bearing_9 rfl (lv_at hl 2 rfl) ?_
    refine zV_z (As := [.int (iI b)]) (rest := []) ⟨hx, hb, hml, hown, hts⟩ (PM g u v) (PM_blind g u v) (PM_mv hP hK) (rcM hK hP) (c_X1_isMoment l g u v b hI (by omega)) (cwV 1 hts gX1_bearing_X1_isMoment rfl rfl rfl (by decide +kernel) ⟨Nat.le_of_ble_eq_true rfl, Nat.le_of_ble_eq_true rfl⟩) rfl hl.1 rfl (Nat.le_of_ble_eq_true rfl) dX1_bearing_10 ⟨Nat.zero_le _, Nat.zero_le _⟩ (fun c_3 => ?_) (fun c_3 => ?_)
    · refine z_if_eq (tgt := 25) hx hb dX1_bearing_13 (by decide) ⟨by decide, by decide⟩ (fun c_4 => (absurd c_4 (by decide))) (fun c_4 => ?_)
      refine lv_aload_n hx hb dX1_bearing_16 rfl (lv_at hl 0 rfl) ?_
      refine lv_iload_n hx hb dX1_bearing_17 rfl (lv_at hl 1 rfl) ?_
      refine lv_iload_n hx hb dX1_bearing_18 rfl (lv_at hl 2 rfl) ?_
      refine zV_l (As := [.int (iI a), .int (iI b)]) (rest := []) ⟨hx, hb, hml, hown, hts⟩ (PM g u v) (PM_blind g u v) (PM_mv hP hK) (rcM hK hP) (c_X1_bearingNow l g u v a b hI (by omega) (by omega)) (cwV 2 hts gX1_bearing_X1_bearingNow rfl rfl rfl (by decide +kernel) ⟨Nat.le_of_ble_eq_true rfl, Nat.le_of_ble_eq_true rfl⟩) rfl hl.1 rfl (Nat.le_of_ble_eq_true rfl) dX1_bearing_19 ⟨Nat.zero_le _, Nat.zero_le _⟩ ?_
      refine lv_goto (tgt := 28) hx hb dX1_bearing_22 (by decide) ?_
      exact zr_l hx hb hr hlocks dX1_bearing_28 (by unfold brR eNM; split <;> first | (exfalso; omega) | rfl)
    · refine z_if_eq (tgt := 25) hx hb dX1_bearing_13 (by decide) ⟨by decide, by decide⟩ (fun c_5 => ?_) (fun c_5 => (absurd c_5 (by decide)))
      refine lv_ldc2 (v := jI (-9000000000000000003)) hx hb hown (hts _ m129) dX1_bearing_25 ?_
      exact zr_l hx hb hr hlocks dX1_bearing_28 (by unfold brR eNM; split <;> first | (exfalso; omega) | rfl)
  · refine z_if_eq (tgt := 25) hx hb dX1_bearing_5 (by decide) ⟨by decide, by decide⟩ (fun c_6 => ?_) (fun c_6 => (absurd c_6 (by decide)))
    refine lv_ldc2 (v := jI (-9000000000000000003)) hx hb hown (hts _ m129) dX1_bearing_25 ?_
    exact zr_l hx hb hr hlocks dX1_bearing_28 (by unfold brR eNM; split <;> first | (exfalso; omega) | rfl)
set_option maxHeartbeats 4000000 in
set_option maxRecDepth 100000 in
theorem c_X1_isOtherLost (l : Launch) (g : GG) (u : ST) (v : VT) (k : Int) (a : Int) (b : Int) (hI : Inv u) (k0z : 0 ≤ a) (k1z : a ≤ b) (k2z : b ≤ zpg u) (k3z : B32 k) : Met l yX1_isOtherLost wsX1_isOtherLost (k2_rm 0 0) (va_Pc [.ref (gM g 0), .int (iI k), .int (iI a), .int (iI b)] (fun U => PM g u v U U.heap)) (vp_Si (fun r => (r = iI 1 ∧ (0 < sz (zup (zlo u) k 0) a b)) ∨ (r = iI 0 ∧ ¬ (0 < sz (zup (zlo u) k 0) a b)))) 0 0 (fun _ => False) := by
  refine Met.ofW (cc := cX1_isOtherLost) (maxL := 6) (ret := (some .boolean)) (by decide) rfl ?_
  intro pp ee s mm args below meth cc9 s₁ B hml hv
  obtain ⟨rfl, hPX⟩ := hv
  obtain ⟨hP, hK⟩ := id hPX
  have hx := B.exec
  have hb := B.bytes
  have hr := B.returns
  have hts := atoms_spec (ws := wsX1_isOtherLost) B.pre
  have hown : s.vm.findClass RX1 = some mm.cls := findClass_of_methodNamed B.named
  have hlocks := B.notSynchronized
  have hin : ∀ w ∈ wsX10, w ∈ wsX1_isOtherLost := fun w h => List.mem_cons_of_mem _ (List.mem_append_right _ h)
  have m22 : Cond.fieldLink RX1 22 "TraverseBoardModel" "isLost" "[Z" ∈ wsX1_isOtherLost := by decide +kernel
  have hi_bl := iv_bl hI
  have hi_pg := iv_pg hI
  have hi_se := iv_se hI
  have hi_dr := iv_dr hI
  have hl := lv_entry ([.ref (gM g 0), .int (iI k), .int (iI a), .int (iI b)]) (n := 6) (Nat.le_of_ble_eq_true rfl)
  rw [lg_entry_eq]
  generalize (lg_sl ([.ref (gM g 0), .int (iI k), .int (iI a), .int (iI b)]) ++ List.replicate (6 - (lg_sl ([.ref (gM g 0), .int (iI k), .int (iI a), .int (iI b)])).length) Slot.unset).toArray = ls at hl ⊢
  have hl : lv_has ls 6 [(0, .ref (gM g 0)), (1, .int (iI k)), (2, .int (iI a)), (3, .int (iI b))] := hl
  refine z_iconst hx hb dX1_isOtherLost_0 ?_
  refine lv_istore (lv' := [(4, .int (iI 0)), (0, .ref (gM g 0)), (1, .int (iI k)), (2, .int (iI a)), (3, .int (iI b))]) hx hb dX1_isOtherLost_1 hl (by decide) rfl (fun ls hl => ?_)
  refine lv_iload_n hx hb dX1_isOtherLost_3 rfl (lv_at hl 3 rfl) ?_
  refine lv_istore (lv' := [(5, .int (iI a)), (4, .int (iI 0)), (0, .ref (gM g 0)), (1, .int (iI k)), (2, .int (iI a)), (3, .int (iI b))]) hx hb dX1_isOtherLost_4 hl (by decide) rfl (fun ls hl => ?_)
  refine z_loop2 (nL := 6) (fun x t => (a ≤ t ∧ t ≤ b) ∧ ((x = 0 ∧ sz (zup (zlo u) k 0) a t = 0) ∨ (x = 1 ∧ 0 < sz (zup (zlo u) k 0) a t))) (fun x t => (b - t).toNat) (fun x t => [(0, .ref (gM g 0)), (1, .int (iI k)), (2, .int (iI a)), (3, .int (iI b)), (4, .int (iI x)), (5, .int (iI t))]) (fun x t ls hinv hl ih_6 => ?_) 0 a ls ⟨(by omega), (by exact Or.inl ⟨rfl, sz_0 (Int.le_refl _)⟩)⟩ (lv_sub hl [2, 3, 4, 5, 1, 0] rfl)
  have hinv : (a ≤ t ∧ t ≤ b) ∧ ((x = 0 ∧ sz (zup (zlo u) k 0) a t = 0) ∨ (x = 1 ∧ 0 < sz (zup (zlo u) k 0) a t)) := hinv
  obtain ⟨q1z, q3z⟩ := hinv
  have hl : lv_has ls 6 [(0, .ref (gM g 0)), (1, .int (iI k)), (2, .int (iI a)), (3, .int (iI b)), (4, .int (iI x)), (5, .int (iI t))] := hl
  have hl9 := iv_lo hI t
  have hs := sz_s (f := zup (zlo u) k 0) q1z.1
  have hz1 : t = k → zup (zlo u) k 0 t = 0 := fun h => by rw [h, zup_s]
  have hz2 : ¬ t = k → zup (zlo u) k 0 t = zlo u t := fun h => zup_n _ _ h
  refine lv_iload hx hb dX1_isOtherLost_6 (lv_at hl 5 rfl) ?_
  refine lv_iload_n hx hb dX1_isOtherLost_8 rfl (lv_at hl 3 rfl) ?_
  refine z_icmp_ge (tgt := 46) hx hb dX1_isOtherLost_9 (by decide) (by omega) (by omega) (fun c_1 => ?_) (fun c_1 => ?_)
  · refine lv_iload hx hb dX1_isOtherLost_46 (lv_at hl 4 rfl) ?_
    exact (by have e9z : t = b := by omega
              rw [e9z] at q3z; rcases q3z with ⟨rfl, q4z⟩ | ⟨rfl, q4z⟩ <;> first | exact zr_0 hx hb hr hlocks dX1_isOtherLost_48 (by omega) | exact zr_1 hx hb hr hlocks dX1_isOtherLost_48 q4z)
  · refine lv_iload hx hb dX1_isOtherLost_12 (lv_at hl 4 rfl) ?_
    refine z_if_ne (tgt := 33) hx hb dX1_isOtherLost_14 (by decide) (by omega) (fun c_2 => ?_) (fun c_2 => ?_)
    · refine z_iconst hx hb dX1_isOtherLost_33 ?_
      refine lv_goto (tgt := 38) hx hb dX1_isOtherLost_34 (by decide) ?_
      refine lv_istore (lv' := [(4, .int (iI 1)), (0, .ref (gM g 0)), (1, .int (iI k)), (2, .int (iI a)), (3, .int (iI b)), (5, .int (iI t))]) hx hb dX1_isOtherLost_38 hl (by decide) rfl (fun ls hl => ?_)
      refine z_iinc (k := 5) (lv' := [(5, .int (iI (t + 1))), (4, .int (iI 1)), (0, .ref (gM g 0)), (1, .int (iI k)), (2, .int (iI a)), (3, .int (iI b))]) hx hb dX1_isOtherLost_40 hl rfl (by decide) rfl (fun ls hl => ?_)
      refine lv_goto (tgt := 6) hx hb dX1_isOtherLost_43 (by decide) ?_
      exact ih_6 1 (t + 1) ls ⟨(by omega), (by omega)⟩ (show (b - (t + 1)).toNat < (b - t).toNat by omega) (lv_sub hl [2, 3, 4, 5, 1, 0] rfl)
    · refine lv_iload hx hb dX1_isOtherLost_17 (lv_at hl 5 rfl) ?_
      refine lv_iload_n hx hb dX1_isOtherLost_19 rfl (lv_at hl 1 rfl) ?_
      refine z_icmp_eq (tgt := 37) hx hb dX1_isOtherLost_20 (by decide) (by omega) (by omega) (fun c_3 => ?_) (fun c_3 => ?_)
      · refine z_iconst hx hb dX1_isOtherLost_37 ?_
        refine lv_istore (lv' := [(4, .int (iI 0)), (0, .ref (gM g 0)), (1, .int (iI k)), (2, .int (iI a)), (3, .int (iI b)), (5, .int (iI t))]) hx hb dX1_isOtherLost_38 hl (by decide) rfl (fun ls hl => ?_)
        refine z_iinc (k := 5) (lv' := [(5, .int (iI (t + 1))), (4, .int (iI 0)), (0, .ref (gM g 0)), (1, .int (iI k)), (2, .int (iI a)), (3, .int (iI b))]) hx hb dX1_isOtherLost_40 hl rfl (by decide) rfl (fun ls hl => ?_)
        refine lv_goto (tgt := 6) hx hb dX1_isOtherLost_43 (by decide) ?_
        exact ih_6 0 (t + 1) ls ⟨(by omega), (by omega)⟩ (show (b - (t + 1)).toNat < (b - t).toNat by omega) (lv_sub hl [2, 3, 4, 5, 1, 0] rfl)
      · refine lv_aload_n hx hb dX1_isOtherLost_23 rfl (lv_at hl 0 rfl) ?_
        refine gf_X1_22 hx hb hts hin m22 hown hK hP dX1_isOtherLost_24 ?_
        refine lv_iload hx hb dX1_isOtherLost_27 (lv_at hl 5 rfl) ?_
        refine al_X1_5 hx hb hK hP ⟨by omega, by omega⟩ dX1_isOtherLost_29 ?_
        have hv_4 := iv_lo hI t
        refine z_if_eq (tgt := 37) hx hb dX1_isOtherLost_30 (by decide) (by omega) (fun c_5 => ?_) (fun c_5 => ?_)
        · refine z_iconst hx hb dX1_isOtherLost_37 ?_
          refine lv_istore (lv' := [(4, .int (iI 0)), (0, .ref (gM g 0)), (1, .int (iI k)), (2, .int (iI a)), (3, .int (iI b)), (5, .int (iI t))]) hx hb dX1_isOtherLost_38 hl (by decide) rfl (fun ls hl => ?_)
          refine z_iinc (k := 5) (lv' := [(5, .int (iI (t + 1))), (4, .int (iI 0)), (0, .ref (gM g 0)), (1, .int (iI k)), (2, .int (iI a)), (3, .int (iI b))]) hx hb dX1_isOtherLost_40 hl rfl (by decide) rfl (fun ls hl => ?_)
          refine lv_goto (tgt := 6) hx hb dX1_isOtherLost_43 (by decide) ?_
          exact ih_6 0 (t + 1) ls ⟨(by omega), (by omega)⟩ (show (b - (t + 1)).toNat < (b - t).toNat by omega) (lv_sub hl [2, 3, 4, 5, 1, 0] rfl)
        · refine z_iconst hx hb dX1_isOtherLost_33 ?_
          refine lv_goto (tgt := 38) hx hb dX1_isOtherLost_34 (by decide) ?_
          refine lv_istore (lv' := [(4, .int (iI 1)), (0, .ref (gM g 0)), (1, .int (iI k)), (2, .int (iI a)), (3, .int (iI b)), (5, .int (iI t))]) hx hb dX1_isOtherLost_38 hl (by decide) rfl (fun ls hl => ?_)
          refine z_iinc (k := 5) (lv' := [(5, .int (iI (t + 1))), (4, .int (iI 1)), (0, .ref (gM g 0)), (1, .int (iI k)), (2, .int (iI a)), (3, .int (iI b))]) hx hb dX1_isOtherLost_40 hl rfl (by decide) rfl (fun ls hl => ?_)
          refine lv_goto (tgt := 6) hx hb dX1_isOtherLost_43 (by decide) ?_
          exact ih_6 1 (t + 1) ls ⟨(by omega), (by omega)⟩ (show (b - (t + 1)).toNat < (b - t).toNat by omega) (lv_sub hl [2, 3, 4, 5, 1, 0] rfl)
set_option maxHeartbeats 4000000 in
set_option maxRecDepth 100000 in
theorem c_X1_search (l : Launch) (g : GG) (u : ST) (v : VT) (k : Int) (a : Int) (b : Int) (hI : Inv u) (k0z : 0 ≤ a) (k1z : a ≤ b) (k2z : b ≤ zpg u) (k3z : 0 ≤ k ∧ k < 48) : Met l yX1_search wsX1_search (k2_rm 5 113) (va_Pc [.ref (gM g 0), .int (iI k), .int (iI a), .int (iI b)] (fun U => PM g u v U U.heap)) (vp_Sl (fun r => r = jI (lk (er u 8 a b) (er u 0 a b) (zle u k)))) 0 0 (fun _ => False) := by
  refine Met.ofW (cc := cX1_search) (maxL := 21) (ret := (some .long)) (by decide) rfl ?_
  intro pp ee s mm args below meth cc9 s₁ B hml hv
  obtain ⟨rfl, hPX⟩ := hv
  obtain ⟨hP, hK⟩ := id hPX
  have hx := B.exec
  have hb := B.bytes
  have hr := B.returns
  have hts := atoms_spec (ws := wsX1_search) B.pre
  have hown : s.vm.findClass RX1 = some mm.cls := findClass_of_methodNamed B.named
  have hlocks := B.notSynchronized
  have hin : ∀ w ∈ wsX10, w ∈ wsX1_search := fun w h => List.mem_cons_of_mem _ (List.mem_append_right _ h)
  have m179 : Cond.constantLong RX1 179 (-1) ∈ wsX1_search := by decide +kernel
  have m181 : Cond.constantLong RX1 181 (1000) ∈ wsX1_search := by decide +kernel
  have m19 : Cond.fieldLink RX1 19 "TraverseBoardModel" "leeway" "[I" ∈ wsX1_search := by decide +kernel
  have hi_bl := iv_bl hI
  have hi_pg := iv_pg hI
  have hi_se := iv_se hI
  have hi_dr := iv_dr hI
  have he8 := er_rng hI 8 (a := a) (b := b) (by omega)
  have he0 := er_rng hI 0 (a := a) (b := b) (by omega)
  have hle := iv_le hI k
  have hl := lv_entry ([.ref (gM g 0), .int (iI k), .int (iI a), .int (iI b)]) (n := 21) (Nat.le_of_ble_eq_true rfl)
  rw [lg_entry_eq]
  generalize (lg_sl ([.ref (gM g 0), .int (iI k), .int (iI a), .int (iI b)]) ++ List.replicate (21 - (lg_sl ([.ref (gM g 0), .int (iI k), .int (iI a), .int (iI b)])).length) Slot.unset).toArray = ls at hl ⊢
  have hl : lv_has ls 21 [(0, .ref (gM g 0)), (1, .int (iI k)), (2, .int (iI a)), (3, .int (iI b))] := hl
  refine lv_aload_n hx hb dX1_search_0 rfl (lv_at hl 0 rfl) ?_
  refine lv_iload_n hx hb dX1_search_1 rfl (lv_at hl 3 rfl) ?_
  refine z_iconst hx hb dX1_search_2 ?_
  refine zV_l (As := [.int (iI b), .int (iI 0)]) (rest := []) ⟨hx, hb, hml, hown, hts⟩ (PM g u v) (PM_blind g u v) (PM_mv hP hK) (rcM hK hP) (c_X1_fixed l g u v b 0 8 hI (by omega) (by omega) (by omega)) (cwV 2 hts gX1_search_X1_fixed rfl rfl rfl (by decide +kernel) ⟨Nat.le_of_ble_eq_true rfl, Nat.le_of_ble_eq_true rfl⟩) rfl hl.1 rfl (Nat.le_of_ble_eq_true rfl) dX1_search_3 ⟨Nat.zero_le _, Nat.zero_le _⟩ ?_
  refine lv_aload_n hx hb dX1_search_6 rfl (lv_at hl 0 rfl) ?_
  refine lv_iload_n hx hb dX1_search_7 rfl (lv_at hl 2 rfl) ?_
  refine lv_iload_n hx hb dX1_search_8 rfl (lv_at hl 3 rfl) ?_
  refine z_iconst hx hb dX1_search_9 ?_
  refine zV_l (As := [.int (iI a), .int (iI b), .int (iI 0)]) (rest := [.long (jI (fxc u 8 b))]) ⟨hx, hb, hml, hown, hts⟩ (PM g u v) (PM_blind g u v) (PM_mv hP hK) (rcM hK hP) (c_X1_gone l g u v a b 0 8 hI (by omega) (by omega) (by omega) (by omega)) (cwV 3 hts gX1_search_X1_gone rfl rfl rfl (by decide +kernel) ⟨Nat.le_of_ble_eq_true rfl, Nat.le_of_ble_eq_true rfl⟩) rfl hl.1 rfl (Nat.le_of_ble_eq_true rfl) dX1_search_10 ⟨Nat.zero_le _, Nat.zero_le _⟩ ?_
  refine z_lsub hx hb dX1_search_13 ?_
  obtain ⟨n9z, hn9⟩ : ∃ z9z : Int, z9z = (fxc u 8 b) - (fxc u 8 a + lg u 8 a b) := ⟨_, rfl⟩
  rw [← hn9]
  have hn8 : n9z = er u 8 a b := by rw [hn9]; unfold er; omega
  refine lv_lstore (lv' := [(4, .long (jI n9z)), (0, .ref (gM g 0)), (1, .int (iI k)), (2, .int (iI a)), (3, .int (iI b))]) hx hb dX1_search_14 hl (by decide) rfl (fun ls hl => ?_)
  refine lv_aload_n hx hb dX1_search_16 rfl (lv_at hl 1 rfl) ?_
  refine lv_iload_n hx hb dX1_search_17 rfl (lv_at hl 4 rfl) ?_
  refine z_iconst hx hb dX1_search_18 ?_
  refine zV_l (As := [.int (iI b), .int (iI 1)]) (rest := []) ⟨hx, hb, hml, hown, hts⟩ (PM g u v) (PM_blind g u v) (PM_mv hP hK) (rcM hK hP) (c_X1_fixed l g u v b 1 0 hI (by omega) (by omega) (by omega)) (cwV 2 hts gX1_search_X1_fixed rfl rfl rfl (by decide +kernel) ⟨Nat.le_of_ble_eq_true rfl, Nat.le_of_ble_eq_true rfl⟩) rfl hl.1 rfl (Nat.le_of_ble_eq_true rfl) dX1_search_19 ⟨Nat.zero_le _, Nat.zero_le _⟩ ?_
  refine lv_aload_n hx hb dX1_search_22 rfl (lv_at hl 1 rfl) ?_
  refine lv_iload_n hx hb dX1_search_23 rfl (lv_at hl 3 rfl) ?_
  refine lv_iload_n hx hb dX1_search_24 rfl (lv_at hl 4 rfl) ?_
  refine z_iconst hx hb dX1_search_25 ?_
  refine zV_l (As := [.int (iI a), .int (iI b), .int (iI 1)]) (rest := [.long (jI (fxc u 0 b))]) ⟨hx, hb, hml, hown, hts⟩ (PM g u v) (PM_blind g u v) (PM_mv hP hK) (rcM hK hP) (c_X1_gone l g u v a b 1 0 hI (by omega) (by omega) (by omega) (by omega)) (cwV 3 hts gX1_search_X1_gone rfl rfl rfl (by decide +kernel) ⟨Nat.le_of_ble_eq_true rfl, Nat.le_of_ble_eq_true rfl⟩) rfl hl.1 rfl (Nat.le_of_ble_eq_true rfl) dX1_search_26 ⟨Nat.zero_le _, Nat.zero_le _⟩ ?_
  refine z_lsub hx hb dX1_search_29 ?_
  obtain ⟨e9z, he9⟩ : ∃ z9z : Int, z9z = (fxc u 0 b) - (fxc u 0 a + lg u 0 a b) := ⟨_, rfl⟩
  rw [← he9]
  have he88 : e9z = er u 0 a b := by rw [he9]; unfold er; omega
  refine lv_lstore (lv' := [(6, .long (jI e9z)), (4, .long (jI n9z)), (0, .ref (gM g 0)), (1, .int (iI k)), (2, .int (iI a)), (3, .int (iI b))]) hx hb dX1_search_30 hl (by decide) rfl (fun ls hl => ?_)
  refine lv_ldc2 (v := jI (-1)) hx hb hown (hts _ m179) dX1_search_32 ?_
  refine lv_lstore (lv' := [(8, .long (jI ((-1)))), (6, .long (jI e9z)), (4, .long (jI n9z)), (0, .ref (gM g 0)), (1, .int (iI k)), (2, .int (iI a)), (3, .int (iI b))]) hx hb dX1_search_35 hl (by decide) rfl (fun ls hl => ?_)
  refine z_lconst (z := 0) hx hb dX1_search_37 rfl ?_
  refine lv_lstore (lv' := [(10, .long (jI 0)), (8, .long (jI ((-1)))), (6, .long (jI e9z)), (4, .long (jI n9z)), (0, .ref (gM g 0)), (1, .int (iI k)), (2, .int (iI a)), (3, .int (iI b))]) hx hb dX1_search_38 hl (by decide) rfl (fun ls hl => ?_)
  refine z_iconst hx hb dX1_search_40 ?_
  refine lv_istore (lv' := [(12, .int (iI 0)), (10, .long (jI 0)), (8, .long (jI ((-1)))), (6, .long (jI e9z)), (4, .long (jI n9z)), (0, .ref (gM g 0)), (1, .int (iI k)), (2, .int (iI a)), (3, .int (iI b))]) hx hb dX1_search_41 hl (by decide) rfl (fun ls hl => ?_)
  refine z_loop3 (nL := 21) (fun x f w => (0 ≤ w ∧ w ≤ 201) ∧ (sO n9z e9z (zle u k) w x f)) (fun x f w => (201 - w).toNat) (fun x f w => [(0, .ref (gM g 0)), (1, .int (iI k)), (2, .int (iI a)), (3, .int (iI b)), (4, .long (jI n9z)), (6, .long (jI e9z)), (8, .long (jI x)), (10, .long (jI f)), (12, .int (iI w))]) (fun x f w ls hinv hl ih_43 => ?_) ((-1)) 0 0 ls ⟨(by omega), (by exact Or.inl ⟨rfl, rfl, rfl⟩)⟩ (lv_sub hl [5, 6, 7, 8, 4, 3, 2, 1, 0] rfl)
  have hinv : (0 ≤ w ∧ w ≤ 201) ∧ (sO n9z e9z (zle u k) w x f) := hinv
  obtain ⟨s1z, s2z⟩ := hinv
  have hl : lv_has ls 21 [(0, .ref (gM g 0)), (1, .int (iI k)), (2, .int (iI a)), (3, .int (iI b)), (4, .long (jI n9z)), (6, .long (jI e9z)), (8, .long (jI x)), (10, .long (jI f)), (12, .int (iI w))] := hl
  refine lv_iload hx hb dX1_search_43 (lv_at hl 8 rfl) ?_
  refine z_sipush hx hb dX1_search_45 (by decide +kernel) ?_
  refine z_icmp_gt (tgt := 165) hx hb dX1_search_48 (by decide) (by omega) ⟨by decide, by decide⟩ (fun c_1 => ?_) (fun c_1 => ?_)
  · refine lv_lload hx hb dX1_search_165 (lv_at hl 7 rfl) ?_
    exact zr_l hx hb hr hlocks dX1_search_167 (by rw [← hn8, ← he88]; exact sO_end s2z (by omega))
  · refine z_iconst hx hb dX1_search_51 ?_
    refine lv_istore (lv' := [(13, .int (iI 0)), (0, .ref (gM g 0)), (1, .int (iI k)), (2, .int (iI a)), (3, .int (iI b)), (4, .long (jI n9z)), (6, .long (jI e9z)), (8, .long (jI x)), (10, .long (jI f)), (12, .int (iI w))]) hx hb dX1_search_52 hl (by decide) rfl (fun ls hl => ?_)
    refine z_loop3 (nL := 21) (fun x f p => (0 ≤ p ∧ p ≤ 32) ∧ (sP n9z e9z (zle u k) w p x f)) (fun x f p => (32 - p).toNat) (fun x f p => [(0, .ref (gM g 0)), (1, .int (iI k)), (2, .int (iI a)), (3, .int (iI b)), (4, .long (jI n9z)), (6, .long (jI e9z)), (8, .long (jI x)), (10, .long (jI f)), (12, .int (iI w)), (13, .int (iI p))]) (fun x f p ls hinv hl ih_54 => ?_) x f 0 ls ⟨(by omega), (by exact sO_P s2z s1z)⟩ (lv_sub hl [1, 2, 3, 4, 5, 6, 7, 8, 9, 0] rfl)
    have hinv : (0 ≤ p ∧ p ≤ 32) ∧ (sP n9z e9z (zle u k) w p x f) := hinv
    obtain ⟨p1z, p2z⟩ := hinv
    have hl : lv_has ls 21 [(0, .ref (gM g 0)), (1, .int (iI k)), (2, .int (iI a)), (3, .int (iI b)), (4, .long (jI n9z)), (6, .long (jI e9z)), (8, .long (jI x)), (10, .long (jI f)), (12, .int (iI w)), (13, .int (iI p))] := hl
    have hxr := sP_x (n := n9z) (e := e9z) (by omega) (by omega) (by omega) p2z
    refine lv_iload hx hb dX1_search_54 (lv_at hl 9 rfl) ?_
    refine z_bipush hx hb dX1_search_56 (by decide +kernel) ?_
    refine z_icmp_ge (tgt := 159) hx hb dX1_search_58 (by decide) (by omega) ⟨by decide, by decide⟩ (fun c_2 => ?_) (fun c_2 => ?_)
    · refine z_iinc (k := 8) (lv' := [(12, .int (iI (w + 1))), (0, .ref (gM g 0)), (1, .int (iI k)), (2, .int (iI a)), (3, .int (iI b)), (4, .long (jI n9z)), (6, .long (jI e9z)), (8, .long (jI x)), (10, .long (jI f)), (13, .int (iI p))]) hx hb dX1_search_159 hl rfl (by decide) rfl (fun ls hl => ?_)
      refine lv_goto (tgt := 43) hx hb dX1_search_162 (by decide) ?_
      exact ih_43 x f (w + 1) ls ⟨(by omega), (by exact sP_end p2z s1z (by omega))⟩ (show (201 - (w + 1)).toNat < (201 - w).toNat by omega) (lv_sub hl [1, 2, 3, 4, 5, 6, 7, 8, 0] rfl)
    · have ht9 := tm32 (x := p + zle u k + 32) (by omega)
      have hl8 : mv 8 (p + zle u k) w = w * sn ((Int.tmod (p + zle u k + 32) 32 + 8) % 32) := mv8 (by rw [ht9]; omega)
      have hl0 : mv 0 (p + zle u k) w = w * sn (Int.tmod (p + zle u k + 32) 32) := mv0 (by rw [ht9]; omega)
      have hr1 := sn_rng ((Int.tmod (p + zle u k + 32) 32 + 8) % 32)
      have hr2 := sn_rng (Int.tmod (p + zle u k + 32) 32)
      refine lv_iload hx hb dX1_search_61 (lv_at hl 9 rfl) ?_
      refine lv_aload_n hx hb dX1_search_63 rfl (lv_at hl 0 rfl) ?_
      refine gf_X1_19 hx hb hts hin m19 hown hK hP dX1_search_64 ?_
      refine lv_iload_n hx hb dX1_search_67 rfl (lv_at hl 1 rfl) ?_
      refine al_X1_4 hx hb hK hP ⟨by omega, by omega⟩ dX1_search_68 ?_
      have hv_3 := iv_le hI k
      refine z_iadd hx hb dX1_search_69 ?_
      refine z_bipush hx hb dX1_search_70 (by decide +kernel) ?_
      refine z_iadd hx hb dX1_search_72 ?_
      refine z_bipush hx hb dX1_search_73 (by decide +kernel) ?_
      refine z_irem hx hb (by omega) (by omega) dX1_search_75 ?_
      refine lv_istore (lv' := [(14, .int (iI (Int.tmod ((p + (zle u k)) + 32) 32))), (0, .ref (gM g 0)), (1, .int (iI k)), (2, .int (iI a)), (3, .int (iI b)), (4, .long (jI n9z)), (6, .long (jI e9z)), (8, .long (jI x)), (10, .long (jI f)), (12, .int (iI w)), (13, .int (iI p))]) hx hb dX1_search_76 hl (by decide) rfl (fun ls hl => ?_)
      refine lv_lload hx hb dX1_search_78 (lv_at hl 5 rfl) ?_
      refine lv_iload hx hb dX1_search_80 (lv_at hl 9 rfl) ?_
      refine z_i2l hx hb (by omega) dX1_search_82 ?_
      refine lv_iload hx hb dX1_search_83 (lv_at hl 0 rfl) ?_
      refine zS_i (As := [.int (iI (Int.tmod ((p + (zle u k)) + 32) 32))]) (rest := [.long (jI w), .long (jI n9z)]) ⟨hx, hb, hml, hown, hts⟩ (PT) PT_blind PT_mv  (c_X1_cosine l g (Int.tmod ((p + (zle u k)) + 32) 32) (by omega) (by omega)) (va_cwS 1 hts gX1_search_X1_cosine rfl rfl rfl (by decide +kernel) ⟨Nat.le_of_ble_eq_true rfl, Nat.le_of_ble_eq_true rfl⟩) rfl hl.1 rfl (Nat.le_of_ble_eq_true rfl) dX1_search_85 ⟨Nat.zero_le _, Nat.zero_le _⟩ ?_
      refine z_i2l hx hb (by omega) dX1_search_88 ?_
      refine z_lmul hx hb dX1_search_89 ?_
      refine z_lsub hx hb dX1_search_90 ?_
      refine lv_lstore (lv' := [(15, .long (jI (n9z - (w * (sn (((Int.tmod ((p + (zle u k)) + 32) 32) + 8) % 32)))))), (14, .int (iI (Int.tmod ((p + (zle u k)) + 32) 32))), (0, .ref (gM g 0)), (1, .int (iI k)), (2, .int (iI a)), (3, .int (iI b)), (4, .long (jI n9z)), (6, .long (jI e9z)), (8, .long (jI x)), (10, .long (jI f)), (12, .int (iI w)), (13, .int (iI p))]) hx hb dX1_search_91 hl (by decide) rfl (fun ls hl => ?_)
      refine lv_lload hx hb dX1_search_93 (lv_at hl 7 rfl) ?_
      refine lv_iload hx hb dX1_search_95 (lv_at hl 10 rfl) ?_
      refine z_i2l hx hb (by omega) dX1_search_97 ?_
      refine lv_iload hx hb dX1_search_98 (lv_at hl 1 rfl) ?_
      refine zS_i (As := [.int (iI (Int.tmod ((p + (zle u k)) + 32) 32))]) (rest := [.long (jI w), .long (jI e9z)]) ⟨hx, hb, hml, hown, hts⟩ (PT) PT_blind PT_mv  (c_X1_sine l g (Int.tmod ((p + (zle u k)) + 32) 32) (by omega) (by omega)) (va_cwS 1 hts gX1_search_X1_sine rfl rfl rfl (by decide +kernel) ⟨Nat.le_of_ble_eq_true rfl, Nat.le_of_ble_eq_true rfl⟩) rfl hl.1 rfl (Nat.le_of_ble_eq_true rfl) dX1_search_100 ⟨Nat.zero_le _, Nat.zero_le _⟩ ?_
      refine z_i2l hx hb (by omega) dX1_search_103 ?_
      refine z_lmul hx hb dX1_search_104 ?_
      refine z_lsub hx hb dX1_search_105 ?_
      refine lv_lstore (lv' := [(17, .long (jI (e9z - (w * (sn (Int.tmod ((p + (zle u k)) + 32) 32)))))), (15, .long (jI (n9z - (w * (sn (((Int.tmod ((p + (zle u k)) + 32) 32) + 8) % 32)))))), (14, .int (iI (Int.tmod ((p + (zle u k)) + 32) 32))), (0, .ref (gM g 0)), (1, .int (iI k)), (2, .int (iI a)), (3, .int (iI b)), (4, .long (jI n9z)), (6, .long (jI e9z)), (8, .long (jI x)), (10, .long (jI f)), (12, .int (iI w)), (13, .int (iI p))]) hx hb dX1_search_106 hl (by decide) rfl (fun ls hl => ?_)
      refine lv_lload hx hb dX1_search_108 (lv_at hl 1 rfl) ?_
      refine lv_lload hx hb dX1_search_110 (lv_at hl 1 rfl) ?_
      refine z_lmul hx hb dX1_search_112 ?_
      refine lv_lload hx hb dX1_search_113 (lv_at hl 0 rfl) ?_
      refine lv_lload hx hb dX1_search_115 (lv_at hl 0 rfl) ?_
      refine z_lmul hx hb dX1_search_117 ?_
      refine z_ladd hx hb dX1_search_118 ?_
      obtain ⟨mm9, hmm9⟩ : ∃ z9z : Int, z9z = ((n9z - (w * (sn (((Int.tmod ((p + (zle u k)) + 32) 32) + 8) % 32)))) * (n9z - (w * (sn (((Int.tmod ((p + (zle u k)) + 32) 32) + 8) % 32))))) + ((e9z - (w * (sn (Int.tmod ((p + (zle u k)) + 32) 32)))) * (e9z - (w * (sn (Int.tmod ((p + (zle u k)) + 32) 32))))) := ⟨_, rfl⟩
      rw [← hmm9]
      have hmm : mm9 = ms n9z e9z (p + zle u k) w := by rw [hmm9]; unfold ms; rw [hl8, hl0]
      have hmr := ms_rng (n := n9z) (e := e9z) (by omega) (by omega) (p := p + zle u k) (v := w) (by omega)
      refine lv_lstore (lv' := [(19, .long (jI mm9)), (17, .long (jI (e9z - (w * (sn (Int.tmod ((p + (zle u k)) + 32) 32)))))), (15, .long (jI (n9z - (w * (sn (((Int.tmod ((p + (zle u k)) + 32) 32) + 8) % 32)))))), (14, .int (iI (Int.tmod ((p + (zle u k)) + 32) 32))), (0, .ref (gM g 0)), (1, .int (iI k)), (2, .int (iI a)), (3, .int (iI b)), (4, .long (jI n9z)), (6, .long (jI e9z)), (8, .long (jI x)), (10, .long (jI f)), (12, .int (iI w)), (13, .int (iI p))]) hx hb dX1_search_119 hl (by decide) rfl (fun ls hl => ?_)
      refine lv_lload hx hb dX1_search_121 (lv_at hl 10 rfl) ?_
      refine z_lconst (z := 0) hx hb dX1_search_123 rfl ?_
      refine z_lcmp_lt (tgt := 136) hx hb dX1_search_124 dX1_search_125 (by decide) (by omega) ⟨by decide, by decide⟩ (fun c_4 => ?_) (fun c_4 => ?_)
      · refine lv_lload hx hb dX1_search_136 (lv_at hl 0 rfl) ?_
        refine lv_lstore (lv' := [(8, .long (jI mm9)), (19, .long (jI mm9)), (17, .long (jI (e9z - (w * (sn (Int.tmod ((p + (zle u k)) + 32) 32)))))), (15, .long (jI (n9z - (w * (sn (((Int.tmod ((p + (zle u k)) + 32) 32) + 8) % 32)))))), (14, .int (iI (Int.tmod ((p + (zle u k)) + 32) 32))), (0, .ref (gM g 0)), (1, .int (iI k)), (2, .int (iI a)), (3, .int (iI b)), (4, .long (jI n9z)), (6, .long (jI e9z)), (10, .long (jI f)), (12, .int (iI w)), (13, .int (iI p))]) hx hb dX1_search_138 hl (by decide) rfl (fun ls hl => ?_)
        refine lv_ldc2 (v := jI (1000)) hx hb hown (hts _ m181) dX1_search_140 ?_
        refine lv_iload hx hb dX1_search_143 (lv_at hl 13 rfl) ?_
        refine z_i2l hx hb (by omega) dX1_search_145 ?_
        refine z_lmul hx hb dX1_search_146 ?_
        refine lv_iload hx hb dX1_search_147 (lv_at hl 12 rfl) ?_
        refine z_i2l hx hb (by omega) dX1_search_149 ?_
        refine z_ladd hx hb dX1_search_150 ?_
        refine lv_lstore (lv' := [(10, .long (jI ((1000 * p) + w))), (8, .long (jI mm9)), (19, .long (jI mm9)), (17, .long (jI (e9z - (w * (sn (Int.tmod ((p + (zle u k)) + 32) 32)))))), (15, .long (jI (n9z - (w * (sn (((Int.tmod ((p + (zle u k)) + 32) 32) + 8) % 32)))))), (14, .int (iI (Int.tmod ((p + (zle u k)) + 32) 32))), (0, .ref (gM g 0)), (1, .int (iI k)), (2, .int (iI a)), (3, .int (iI b)), (4, .long (jI n9z)), (6, .long (jI e9z)), (12, .int (iI w)), (13, .int (iI p))]) hx hb dX1_search_151 hl (by decide) rfl (fun ls hl => ?_)
        refine z_iinc (k := 13) (lv' := [(13, .int (iI (p + 1))), (10, .long (jI ((1000 * p) + w))), (8, .long (jI mm9)), (19, .long (jI mm9)), (17, .long (jI (e9z - (w * (sn (Int.tmod ((p + (zle u k)) + 32) 32)))))), (15, .long (jI (n9z - (w * (sn (((Int.tmod ((p + (zle u k)) + 32) 32) + 8) % 32)))))), (14, .int (iI (Int.tmod ((p + (zle u k)) + 32) 32))), (0, .ref (gM g 0)), (1, .int (iI k)), (2, .int (iI a)), (3, .int (iI b)), (4, .long (jI n9z)), (6, .long (jI e9z)), (12, .int (iI w))]) hx hb dX1_search_153 hl rfl (by decide) rfl (fun ls hl => ?_)
        refine lv_goto (tgt := 54) hx hb dX1_search_156 (by decide) ?_
        exact ih_54 mm9 ((1000 * p) + w) (p + 1) ls ⟨(by omega), (by first | exact sP_no p2z p1z (by omega) (by omega) | (rw [hmm]; exact sP_up (by omega) (by omega) p2z p1z (by omega) (by omega) (by omega)))⟩ (show (32 - (p + 1)).toNat < (32 - p).toNat by omega) (lv_sub hl [7, 8, 9, 10, 11, 12, 2, 1, 13, 0] rfl)
      · refine lv_lload hx hb dX1_search_128 (lv_at hl 0 rfl) ?_
        refine lv_lload hx hb dX1_search_130 (lv_at hl 10 rfl) ?_
        refine z_lcmp_ge (tgt := 153) hx hb dX1_search_132 dX1_search_133 (by decide) (by omega) (by omega) (fun c_5 => ?_) (fun c_5 => ?_)
        · refine z_iinc (k := 13) (lv' := [(13, .int (iI (p + 1))), (19, .long (jI mm9)), (17, .long (jI (e9z - (w * (sn (Int.tmod ((p + (zle u k)) + 32) 32)))))), (15, .long (jI (n9z - (w * (sn (((Int.tmod ((p + (zle u k)) + 32) 32) + 8) % 32)))))), (14, .int (iI (Int.tmod ((p + (zle u k)) + 32) 32))), (0, .ref (gM g 0)), (1, .int (iI k)), (2, .int (iI a)), (3, .int (iI b)), (4, .long (jI n9z)), (6, .long (jI e9z)), (8, .long (jI x)), (10, .long (jI f)), (12, .int (iI w))]) hx hb dX1_search_153 hl rfl (by decide) rfl (fun ls hl => ?_)
          refine lv_goto (tgt := 54) hx hb dX1_search_156 (by decide) ?_
          exact ih_54 x f (p + 1) ls ⟨(by omega), (by first | exact sP_no p2z p1z (by omega) (by omega) | (rw [hmm]; exact sP_up (by omega) (by omega) p2z p1z (by omega) (by omega) (by omega)))⟩ (show (32 - (p + 1)).toNat < (32 - p).toNat by omega) (lv_sub hl [5, 6, 7, 8, 9, 10, 11, 12, 13, 0] rfl)
        · refine lv_lload hx hb dX1_search_136 (lv_at hl 0 rfl) ?_
          refine lv_lstore (lv' := [(8, .long (jI mm9)), (19, .long (jI mm9)), (17, .long (jI (e9z - (w * (sn (Int.tmod ((p + (zle u k)) + 32) 32)))))), (15, .long (jI (n9z - (w * (sn (((Int.tmod ((p + (zle u k)) + 32) 32) + 8) % 32)))))), (14, .int (iI (Int.tmod ((p + (zle u k)) + 32) 32))), (0, .ref (gM g 0)), (1, .int (iI k)), (2, .int (iI a)), (3, .int (iI b)), (4, .long (jI n9z)), (6, .long (jI e9z)), (10, .long (jI f)), (12, .int (iI w)), (13, .int (iI p))]) hx hb dX1_search_138 hl (by decide) rfl (fun ls hl => ?_)
          refine lv_ldc2 (v := jI (1000)) hx hb hown (hts _ m181) dX1_search_140 ?_
          refine lv_iload hx hb dX1_search_143 (lv_at hl 13 rfl) ?_
          refine z_i2l hx hb (by omega) dX1_search_145 ?_
          refine z_lmul hx hb dX1_search_146 ?_
          refine lv_iload hx hb dX1_search_147 (lv_at hl 12 rfl) ?_
          refine z_i2l hx hb (by omega) dX1_search_149 ?_
          refine z_ladd hx hb dX1_search_150 ?_
          refine lv_lstore (lv' := [(10, .long (jI ((1000 * p) + w))), (8, .long (jI mm9)), (19, .long (jI mm9)), (17, .long (jI (e9z - (w * (sn (Int.tmod ((p + (zle u k)) + 32) 32)))))), (15, .long (jI (n9z - (w * (sn (((Int.tmod ((p + (zle u k)) + 32) 32) + 8) % 32)))))), (14, .int (iI (Int.tmod ((p + (zle u k)) + 32) 32))), (0, .ref (gM g 0)), (1, .int (iI k)), (2, .int (iI a)), (3, .int (iI b)), (4, .long (jI n9z)), (6, .long (jI e9z)), (12, .int (iI w)), (13, .int (iI p))]) hx hb dX1_search_151 hl (by decide) rfl (fun ls hl => ?_)
          refine z_iinc (k := 13) (lv' := [(13, .int (iI (p + 1))), (10, .long (jI ((1000 * p) + w))), (8, .long (jI mm9)), (19, .long (jI mm9)), (17, .long (jI (e9z - (w * (sn (Int.tmod ((p + (zle u k)) + 32) 32)))))), (15, .long (jI (n9z - (w * (sn (((Int.tmod ((p + (zle u k)) + 32) 32) + 8) % 32)))))), (14, .int (iI (Int.tmod ((p + (zle u k)) + 32) 32))), (0, .ref (gM g 0)), (1, .int (iI k)), (2, .int (iI a)), (3, .int (iI b)), (4, .long (jI n9z)), (6, .long (jI e9z)), (12, .int (iI w))]) hx hb dX1_search_153 hl rfl (by decide) rfl (fun ls hl => ?_)
          refine lv_goto (tgt := 54) hx hb dX1_search_156 (by decide) ?_
          exact ih_54 mm9 ((1000 * p) + w) (p + 1) ls ⟨(by omega), (by first | exact sP_no p2z p1z (by omega) (by omega) | (rw [hmm]; exact sP_up (by omega) (by omega) p2z p1z (by omega) (by omega) (by omega)))⟩ (show (32 - (p + 1)).toNat < (32 - p).toNat by omega) (lv_sub hl [7, 8, 9, 10, 11, 12, 2, 1, 13, 0] rfl)
set_option maxHeartbeats 4000000 in
set_option maxRecDepth 100000 in
theorem c_X1_lostNow (l : Launch) (g : GG) (u : ST) (v : VT) (k : Int) (hI : Inv u) (k0z : 0 ≤ k ∧ k ≤ zpg u - 1) : Met l yX1_lostNow wsX1_lostNow (k2_rm 6 153) (va_Pc [.ref (gM g 0), .int (iI k)] (fun U => PM g u v U U.heap)) (vp_Sl (fun r => r = jI (fdl u k))) 0 0 (fun _ => False) := by
  refine Met.ofW (cc := cX1_lostNow) (maxL := 4) (ret := (some .long)) (by decide) rfl ?_
  intro pp ee s mm args below meth cc9 s₁ B hml hv
  obtain ⟨rfl, hPX⟩ := hv
  obtain ⟨hP, hK⟩ := id hPX
  have hx := B.exec
  have hb := B.bytes
  have hr := B.returns
  have hts := atoms_spec (ws := wsX1_lostNow) B.pre
  have hown : s.vm.findClass RX1 = some mm.cls := findClass_of_methodNamed B.named
  have hlocks := B.notSynchronized
  have hin : ∀ w ∈ wsX10, w ∈ wsX1_lostNow := fun w h => List.mem_cons_of_mem _ (List.mem_append_right _ h)
  have m108 : Cond.constantLong RX1 108 (-9000000000000000007) ∈ wsX1_lostNow := by decide +kernel
  have m110 : Cond.constantLong RX1 110 (-9000000000000000006) ∈ wsX1_lostNow := by decide +kernel
  have m22 : Cond.fieldLink RX1 22 "TraverseBoardModel" "isLost" "[Z" ∈ wsX1_lostNow := by decide +kernel
  have hi_bl := iv_bl hI
  have hi_pg := iv_pg hI
  have hi_se := iv_se hI
  have hi_dr := iv_dr hI
  have hla := la_rng u (m := k) (by omega)
  have hnf := nf_rng u k
  have hl := lv_entry ([.ref (gM g 0), .int (iI k)]) (n := 4) (Nat.le_of_ble_eq_true rfl)
  rw [lg_entry_eq]
  generalize (lg_sl ([.ref (gM g 0), .int (iI k)]) ++ List.replicate (4 - (lg_sl ([.ref (gM g 0), .int (iI k)])).length) Slot.unset).toArray = ls at hl ⊢
  have hl : lv_has ls 4 [(0, .ref (gM g 0)), (1, .int (iI k))] := hl
  refine lv_aload_n hx hb dX1_lostNow_0 rfl (lv_at hl 0 rfl) ?_
  refine gf_X1_22 hx hb hts hin m22 hown hK hP dX1_lostNow_1 ?_
  refine lv_iload_n hx hb dX1_lostNow_4 rfl (lv_at hl 1 rfl) ?_
  refine al_X1_5 hx hb hK hP ⟨by omega, by omega⟩ dX1_lostNow_5 ?_
  have hv_1 := iv_lo hI k
  refine z_if_ne (tgt := 13) hx hb dX1_lostNow_6 (by decide) (by omega) (fun c_2 => ?_) (fun c_2 => ?_)
  · refine lv_aload_n hx hb dX1_lostNow_13 rfl (lv_at hl 0 rfl) ?_
    refine lv_iload_n hx hb dX1_lostNow_14 rfl (lv_at hl 1 rfl) ?_
    refine zV_i (As := [.int (iI k)]) (rest := []) ⟨hx, hb, hml, hown, hts⟩ (PM g u v) (PM_blind g u v) (PM_mv hP hK) (rcM hK hP) (c_X1_fixAt l g u v k hI (by omega) (by omega)) (cwV 1 hts gX1_lostNow_X1_fixAt rfl rfl rfl (by decide +kernel) ⟨Nat.le_of_ble_eq_true rfl, Nat.le_of_ble_eq_true rfl⟩) rfl hl.1 rfl (Nat.le_of_ble_eq_true rfl) dX1_lostNow_15 ⟨Nat.zero_le _, Nat.zero_le _⟩ ?_
    refine lv_istore_n (lv' := [(2, .int (iI (la u k))), (0, .ref (gM g 0)), (1, .int (iI k))]) hx hb dX1_lostNow_18 rfl hl (by decide) rfl (fun ls hl => ?_)
    refine lv_aload_n hx hb dX1_lostNow_19 rfl (lv_at hl 1 rfl) ?_
    refine lv_iload_n hx hb dX1_lostNow_20 rfl (lv_at hl 2 rfl) ?_
    refine zV_i (As := [.int (iI k)]) (rest := []) ⟨hx, hb, hml, hown, hts⟩ (PM g u v) (PM_blind g u v) (PM_mv hP hK) (rcM hK hP) (c_X1_fixBehind l g u v k hI (by omega) (by omega)) (cwV 1 hts gX1_lostNow_X1_fixBehind rfl rfl rfl (by decide +kernel) ⟨Nat.le_of_ble_eq_true rfl, Nat.le_of_ble_eq_true rfl⟩) rfl hl.1 rfl (Nat.le_of_ble_eq_true rfl) dX1_lostNow_21 ⟨Nat.zero_le _, Nat.zero_le _⟩ ?_
    refine lv_istore_n (lv' := [(3, .int (iI (nf u k))), (2, .int (iI (la u k))), (0, .ref (gM g 0)), (1, .int (iI k))]) hx hb dX1_lostNow_24 rfl hl (by decide) rfl (fun ls hl => ?_)
    refine lv_iload_n hx hb dX1_lostNow_25 rfl (lv_at hl 0 rfl) ?_
    refine z_if_ge (tgt := 33) hx hb dX1_lostNow_26 (by decide) (by omega) (fun c_3 => ?_) (fun c_3 => ?_)
    · have hsz := sz_zup (f := zlo u) (i := k) (x := 0) (a := la u k) (b := nf u k) (by omega) (by omega)
      have hlk := iv_lo hI k
      refine lv_aload_n hx hb dX1_lostNow_33 rfl (lv_at hl 2 rfl) ?_
      refine lv_iload_n hx hb dX1_lostNow_34 rfl (lv_at hl 3 rfl) ?_
      refine lv_iload_n hx hb dX1_lostNow_35 rfl (lv_at hl 1 rfl) ?_
      refine lv_iload_n hx hb dX1_lostNow_36 rfl (lv_at hl 0 rfl) ?_
      refine zV_z (As := [.int (iI k), .int (iI (la u k)), .int (iI (nf u k))]) (rest := []) ⟨hx, hb, hml, hown, hts⟩ (PM g u v) (PM_blind g u v) (PM_mv hP hK) (rcM hK hP) (c_X1_isOtherLost l g u v k (la u k) (nf u k) hI (by omega) (by omega) (by omega) (by omega)) (cwV 3 hts gX1_lostNow_X1_isOtherLost rfl rfl rfl (by decide +kernel) ⟨Nat.le_of_ble_eq_true rfl, Nat.le_of_ble_eq_true rfl⟩) rfl hl.1 rfl (Nat.le_of_ble_eq_true rfl) dX1_lostNow_37 ⟨Nat.zero_le _, Nat.zero_le _⟩ (fun c_4 => ?_) (fun c_4 => ?_)
      · refine z_if_eq (tgt := 49) hx hb dX1_lostNow_40 (by decide) ⟨by decide, by decide⟩ (fun c_5 => (absurd c_5 (by decide))) (fun c_5 => ?_)
        refine lv_ldc2 (v := jI (-9000000000000000006)) hx hb hown (hts _ m110) dX1_lostNow_43 ?_
        refine lv_goto (tgt := 56) hx hb dX1_lostNow_46 (by decide) ?_
        exact zr_l hx hb hr hlocks dX1_lostNow_56 (by unfold fdl eWS eNO; (repeat' split) <;> first | (exfalso; omega) | rfl)
      · refine z_if_eq (tgt := 49) hx hb dX1_lostNow_40 (by decide) ⟨by decide, by decide⟩ (fun c_6 => ?_) (fun c_6 => (absurd c_6 (by decide)))
        refine lv_aload_n hx hb dX1_lostNow_49 rfl (lv_at hl 2 rfl) ?_
        refine lv_iload_n hx hb dX1_lostNow_50 rfl (lv_at hl 3 rfl) ?_
        refine lv_iload_n hx hb dX1_lostNow_51 rfl (lv_at hl 1 rfl) ?_
        refine lv_iload_n hx hb dX1_lostNow_52 rfl (lv_at hl 0 rfl) ?_
        refine zV_l (As := [.int (iI k), .int (iI (la u k)), .int (iI (nf u k))]) (rest := []) ⟨hx, hb, hml, hown, hts⟩ (PM g u v) (PM_blind g u v) (PM_mv hP hK) (rcM hK hP) (c_X1_search l g u v k (la u k) (nf u k) hI (by omega) (by omega) (by omega) (by omega)) (cwV 3 hts gX1_lostNow_X1_search rfl rfl rfl (by decide +kernel) ⟨Nat.le_of_ble_eq_true rfl, Nat.le_of_ble_eq_true rfl⟩) rfl hl.1 rfl (Nat.le_of_ble_eq_true rfl) dX1_lostNow_53 ⟨Nat.zero_le _, Nat.zero_le _⟩ ?_
        exact zr_l hx hb hr hlocks dX1_lostNow_56 (by unfold fdl eWS eNO; (repeat' split) <;> first | (exfalso; omega) | rfl)
    · refine lv_ldc2 (v := jI (-9000000000000000007)) hx hb hown (hts _ m108) dX1_lostNow_29 ?_
      exact zr_l hx hb hr hlocks dX1_lostNow_32 (by unfold fdl eWS eNO; (repeat' split) <;> first | (exfalso; omega) | rfl)
  · refine lv_ldc2 (v := jI (-9000000000000000006)) hx hb hown (hts _ m110) dX1_lostNow_9 ?_
    exact zr_l hx hb hr hlocks dX1_lostNow_12 (by unfold fdl eWS eNO; (repeat' split) <;> first | (exfalso; omega) | rfl)
set_option maxHeartbeats 4000000 in
set_option maxRecDepth 100000 in
theorem c_X1_findLost (l : Launch) (g : GG) (u : ST) (v : VT) (k : Int) (hI : Inv u) (hb_k : B32 k) : Met l yX1_findLost wsX1_findLost (k2_rm 7 176) (va_Pc [.ref (gM g 0), .int (iI k)] (fun U => PM g u v U U.heap)) (vp_Sl (fun r => r = jI (fdR u k))) 0 0 (fun _ => False) := by
  refine Met.ofW (cc := cX1_findLost) (maxL := 2) (ret := (some .long)) (by decide) rfl ?_
  intro pp ee s mm args below meth cc9 s₁ B hml hv
  obtain ⟨rfl, hPX⟩ := hv
  obtain ⟨hP, hK⟩ := id hPX
  have hx := B.exec
  have hb := B.bytes
  have hr := B.returns
  have hts := atoms_spec (ws := wsX1_findLost) B.pre
  have hown : s.vm.findClass RX1 = some mm.cls := findClass_of_methodNamed B.named
  have hlocks := B.notSynchronized
  have hin : ∀ w ∈ wsX10, w ∈ wsX1_findLost := fun w h => List.mem_cons_of_mem _ (List.mem_append_right _ h)
  have m106 : Cond.constantLong RX1 106 (-9000000000000000002) ∈ wsX1_findLost := by decide +kernel
  have hi_bl := iv_bl hI
  have hi_pg := iv_pg hI
  have hi_se := iv_se hI
  have hi_dr := iv_dr hI
  have hl := lv_entry ([.ref (gM g 0), .int (iI k)]) (n := 2) (Nat.le_of_ble_eq_true rfl)
  rw [lg_entry_eq]
  generalize (lg_sl ([.ref (gM g 0), .int (iI k)]) ++ List.replicate (2 - (lg_sl ([.ref (gM g 0), .int (iI k)])).length) Slot.unset).toArray = ls at hl ⊢
  have hl : lv_has ls 2 [(0, .ref (gM g 0)), (1, .int (iI k))] := hl
  refine lv_aload_n hx hb dX1_findLost_0 rfl (lv_at hl 0 rfl) ?_
  refine lv_iload_n hx hb dX1_findLost_1 rfl (lv_at hl 1 rfl) ?_
  refine zV_z (As := [.int (iI k)]) (rest := []) ⟨hx, hb, hml, hown, hts⟩ (PM g u v) (PM_blind g u v) (PM_mv hP hK) (rcM hK hP) (c_X1_isPegNumber l g u v k hI (by omega)) (cwV 1 hts gX1_findLost_X1_isPegNumber rfl rfl rfl (by decide +kernel) ⟨Nat.le_of_ble_eq_true rfl, Nat.le_of_ble_eq_true rfl⟩) rfl hl.1 rfl (Nat.le_of_ble_eq_true rfl) dX1_findLost_2 ⟨Nat.zero_le _, Nat.zero_le _⟩ (fun c_1 => ?_) (fun c_1 => ?_)
  · refine z_if_eq (tgt := 16) hx hb dX1_findLost_5 (by decide) ⟨by decide, by decide⟩ (fun c_2 => (absurd c_2 (by decide))) (fun c_2 => ?_)
    refine lv_aload_n hx hb dX1_findLost_8 rfl (lv_at hl 0 rfl) ?_
    refine lv_iload_n hx hb dX1_findLost_9 rfl (lv_at hl 1 rfl) ?_
    refine zV_l (As := [.int (iI k)]) (rest := []) ⟨hx, hb, hml, hown, hts⟩ (PM g u v) (PM_blind g u v) (PM_mv hP hK) (rcM hK hP) (c_X1_lostNow l g u v k hI (by omega)) (cwV 1 hts gX1_findLost_X1_lostNow rfl rfl rfl (by decide +kernel) ⟨Nat.le_of_ble_eq_true rfl, Nat.le_of_ble_eq_true rfl⟩) rfl hl.1 rfl (Nat.le_of_ble_eq_true rfl) dX1_findLost_10 ⟨Nat.zero_le _, Nat.zero_le _⟩ ?_
    refine lv_goto (tgt := 19) hx hb dX1_findLost_13 (by decide) ?_
    exact zr_l hx hb hr hlocks dX1_findLost_19 (by unfold fdR; first | rw [if_pos (by omega)] | (rw [if_neg (by omega)]; rfl))
  · refine z_if_eq (tgt := 16) hx hb dX1_findLost_5 (by decide) ⟨by decide, by decide⟩ (fun c_3 => ?_) (fun c_3 => (absurd c_3 (by decide)))
    refine lv_ldc2 (v := jI (-9000000000000000002)) hx hb hown (hts _ m106) dX1_findLost_16 ?_
    exact zr_l hx hb hr hlocks dX1_findLost_19 (by unfold fdR; first | rw [if_pos (by omega)] | (rw [if_neg (by omega)]; rfl))
set_option maxHeartbeats 4000000 in
set_option maxRecDepth 100000 in
theorem c_X1_mix (l : Launch) (g : GG) (u : ST) (v : VT) (hg : gOk g) (w : Int) : Met l yX1_mix wsX1_mix (k2_rm 0 0) (va_Pc [.ref (gM g 0), .long (jI w)] (fun U => PM g u v U U.heap)) (va_Qv (fun (_ : Unit) => True) (fun _ t => (fun H9 => va_P (gD g) vwCl (wM g u (wh v (mx (vh v) w))) H9) t.heap) (aM g)) 0 0 (aM g) := by
  refine Met.ofW (cc := cX1_mix) (maxL := 3) (ret := none) (by decide) rfl ?_
  intro pp ee s mm args below meth cc9 s₁ B hml hv
  obtain ⟨rfl, hPX⟩ := hv
  obtain ⟨hP, hK⟩ := id hPX
  have hx := B.exec
  have hb := B.bytes
  have hr := B.returns
  have hts := atoms_spec (ws := wsX1_mix) B.pre
  have hown : s.vm.findClass RX1 = some mm.cls := findClass_of_methodNamed B.named
  have hlocks := B.notSynchronized
  have hin : ∀ w ∈ wsX10, w ∈ wsX1_mix := fun w h => List.mem_cons_of_mem _ (List.mem_append_right _ h)
  have m192 : Cond.constantLong RX1 192 (31) ∈ wsX1_mix := by decide +kernel
  have m194 : Cond.fieldLink RX1 194 "TraverseBoardModel" "h" "J" ∈ wsX1_mix := by decide +kernel
  have hS : va_S (aM g) s.heap s.heap [] := va_S.rf
  have hl := lv_entry ([.ref (gM g 0), .long (jI w)]) (n := 3) (Nat.le_of_ble_eq_true rfl)
  rw [lg_entry_eq]
  generalize (lg_sl ([.ref (gM g 0), .long (jI w)]) ++ List.replicate (3 - (lg_sl ([.ref (gM g 0), .long (jI w)])).length) Slot.unset).toArray = ls at hl ⊢
  have hl : lv_has ls 3 [(0, .ref (gM g 0)), (1, .long (jI w))] := hl
  refine lv_aload_n hx hb dX1_mix_0 rfl (lv_at hl 0 rfl) ?_
  refine lv_ldc2 (v := jI (31)) hx hb hown (hts _ m192) dX1_mix_1 ?_
  refine lv_aload_n hx hb dX1_mix_4 rfl (lv_at hl 0 rfl) ?_
  refine gf_X1_194 (z := vh v) hx hb hts hin m194 hown hK hP rfl dX1_mix_5 ?_
  refine z_lmul hx hb dX1_mix_8 ?_
  refine lv_lload_n hx hb dX1_mix_9 rfl (lv_at hl 1 rfl) ?_
  refine z_ladd hx hb dX1_mix_10 ?_
  refine pf_X1_194 hx hb hts hin m194 hown hK hP (wM_D hg _ _) hS dX1_mix_11 (fun H locs hP hS => ?_)
  exact zw_v (Post := (fun H9 => va_P (gD g) vwCl (wM g u (wh v (mx (vh v) w))) H9)) hx hb hr hlocks dX1_mix_14 hS hP
