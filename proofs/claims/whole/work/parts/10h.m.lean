/-! the reference, by program (genm.py): X1_digest -/
set_option maxHeartbeats 4000000 in
set_option maxRecDepth 100000 in
theorem c_X1_digest (l : Launch) (g : GG) (u : ST) (v : VT) (hg : gOk g) (hI : Inv u) : Met l yX1_digest wsX1_digest (k2_rm 7 176) (va_Pc [.ref (gM g 0)] (fun U => PM g u v U U.heap)) (va_Ql (fun r (_ : Unit) => r = jI (dig u)) (fun _ t => (fun H9 => va_P (gD g) vwCl (wM g u (wh v (dig u))) H9) t.heap) (aM g)) 0 0 (aM g) := by
  refine Met.ofW (cc := cX1_digest) (maxL := 3) (ret := (some .long)) (by decide) rfl ?_
  intro pp ee s mm args below meth cc9 s₁ B hml hv
  obtain ⟨rfl, hPX⟩ := hv
  obtain ⟨hP, hK⟩ := id hPX
  have hx := B.exec
  have hb := B.bytes
  have hr := B.returns
  have hts := atoms_spec (ws := wsX1_digest) B.pre
  have hown : s.vm.findClass RX1 = some mm.cls := findClass_of_methodNamed B.named
  have hlocks := B.notSynchronized
  have hin : ∀ w ∈ wsX10, w ∈ wsX1_digest := fun w h => List.mem_cons_of_mem _ (List.mem_append_right _ h)
  have m116 : Cond.fieldLink RX1 116 "TraverseBoardModel" "drift" "I" ∈ wsX1_digest := by decide +kernel
  have m119 : Cond.fieldLink RX1 119 "TraverseBoardModel" "set" "I" ∈ wsX1_digest := by decide +kernel
  have m19 : Cond.fieldLink RX1 19 "TraverseBoardModel" "leeway" "[I" ∈ wsX1_digest := by decide +kernel
  have m194 : Cond.fieldLink RX1 194 "TraverseBoardModel" "h" "J" ∈ wsX1_digest := by decide +kernel
  have m198 : Cond.constantLong RX1 198 (1811) ∈ wsX1_digest := by decide +kernel
  have m22 : Cond.fieldLink RX1 22 "TraverseBoardModel" "isLost" "[Z" ∈ wsX1_digest := by decide +kernel
  have m26 : Cond.fieldLink RX1 26 "TraverseBoardModel" "hasFix" "[Z" ∈ wsX1_digest := by decide +kernel
  have m53 : Cond.fieldLink RX1 53 "TraverseBoardModel" "bufferLength" "I" ∈ wsX1_digest := by decide +kernel
  have m7z : Cond.fieldLink RX1 7 "TraverseBoardModel" "buffer" "[I" ∈ wsX1_digest := by decide +kernel
  have m91 : Cond.fieldLink RX1 91 "TraverseBoardModel" "pegs" "I" ∈ wsX1_digest := by decide +kernel
  have hS : va_S (aM g) s.heap s.heap [] := va_S.rf
  have hi_bl := iv_bl hI
  have hi_pg := iv_pg hI
  have hi_se := iv_se hI
  have hi_dr := iv_dr hI
  have hfl := fl_rng u
  have hl := lv_entry ([.ref (gM g 0)]) (n := 3) (Nat.le_of_ble_eq_true rfl)
  rw [lg_entry_eq]
  generalize (lg_sl ([.ref (gM g 0)]) ++ List.replicate (3 - (lg_sl ([.ref (gM g 0)])).length) Slot.unset).toArray = ls at hl ⊢
  have hl : lv_has ls 3 [(0, .ref (gM g 0))] := hl
  refine lv_aload_n hx hb dX1_digest_0 rfl (lv_at hl 0 rfl) ?_
  refine lv_ldc2 (v := jI (1811)) hx hb hown (hts _ m198) dX1_digest_1 ?_
  refine pf_X1_194 hx hb hts hin m194 hown hK hP (wM_D hg _ _) hS dX1_digest_4 (fun H locs hP hS => ?_)
  refine lv_aload_n hx hb dX1_digest_7 rfl (lv_at hl 0 rfl) ?_
  refine lv_aload_n hx hb dX1_digest_8 rfl (lv_at hl 0 rfl) ?_
  refine gf_X1_91 (z := zpg u) hx hb hts hin m91 hown hK hP rfl dX1_digest_9 ?_
  refine z_i2l hx hb (by omega) dX1_digest_12 ?_
  refine zVw_v (As := [.long (jI (zpg u))]) (rest := []) ⟨hx, hb, hml, hown, hts⟩ (PM g u (wh v 1811)) (PM_blind g u (wh v 1811)) (PM_mv hP hK) (rcM hK hP) (c_X1_mix l g u ((wh v 1811)) hg (zpg u)) (cwV 1 hts gX1_digest_X1_mix rfl rfl rfl (by decide +kernel) ⟨Nat.le_of_ble_eq_true rfl, Nat.le_of_ble_eq_true rfl⟩) rfl hl.1 rfl (Nat.le_of_ble_eq_true rfl) dX1_digest_13 ⟨Nat.zero_le _, Nat.zero_le _⟩ hS (fun _ h => h) (fun H locs hP hH1 hH2 hS => ?_)
  have hP : va_P (gD g) vwCl (wM g u (wh v (mx 1811 (zpg u)))) H := hP
  refine z_iconst hx hb dX1_digest_16 ?_
  refine lv_istore_n (lv' := [(1, .int (iI ((-1)))), (0, .ref (gM g 0))]) hx hb dX1_digest_17 rfl hl (by decide) rfl (fun ls hl => ?_)
  refine z_iconst hx hb dX1_digest_18 ?_
  refine lv_istore_n (lv' := [(2, .int (iI 0)), (1, .int (iI ((-1)))), (0, .ref (gM g 0))]) hx hb dX1_digest_19 rfl hl (by decide) rfl (fun ls hl => ?_)
  refine z_loopW3 (nL := 3) (fun f t hh => (0 ≤ t ∧ t ≤ zpg u) ∧ (f = ff (zlo u) 0 t) ∧ (hh = dgp u (mx 1811 (zpg u)) t)) (fun f t hh => (zpg u - t).toNat) (fun f t hh => [(0, .ref (gM g 0)), (1, .int (iI f)), (2, .int (iI t))]) (fun f t hh H9 => va_P (gD g) vwCl (wM g u (wh v hh)) H9) (fun f t hh H locs ls hinv hP hS hl ih_20 => ?_) ((-1)) 0 (mx 1811 (zpg u)) _ _ ls ⟨(by omega), (by exact (ff_0 (Int.le_refl _)).symm), (by exact (dgp_0 (Int.le_refl _)).symm)⟩ hP hS (lv_sub hl [2, 1, 0] rfl)
  have hinv : (0 ≤ t ∧ t ≤ zpg u) ∧ (f = ff (zlo u) 0 t) ∧ (hh = dgp u (mx 1811 (zpg u)) t) := hinv
  obtain ⟨q1z, q2z, q3z⟩ := hinv
  have hl : lv_has ls 3 [(0, .ref (gM g 0)), (1, .int (iI f)), (2, .int (iI t))] := hl
  have hP : va_P (gD g) vwCl (wM g u (wh v hh)) H := hP
  have hl9 := iv_lo hI t
  have hs := ff_snoc (f := zlo u) q1z.1 (Int.le_refl 0)
  have hf9 := ff_rng (f := zlo u) (a := 0) (b := t)
  refine lv_iload_n hx hb dX1_digest_20 rfl (lv_at hl 2 rfl) ?_
  refine lv_aload_n hx hb dX1_digest_21 rfl (lv_at hl 0 rfl) ?_
  refine gf_X1_91 (z := zpg u) hx hb hts hin m91 hown hK hP rfl dX1_digest_22 ?_
  refine z_icmp_ge (tgt := 82) hx hb dX1_digest_25 (by decide) (by omega) (by omega) (fun c_1 => ?_) (fun c_1 => ?_)
  · have q4z : f = fl u := by rw [q2z, show t = zpg u by omega]; rfl
    refine lv_aload_n hx hb dX1_digest_82 rfl (lv_at hl 0 rfl) ?_
    refine lv_aload_n hx hb dX1_digest_83 rfl (lv_at hl 0 rfl) ?_
    refine gf_X1_119 (z := zse u) hx hb hts hin m119 hown hK hP rfl dX1_digest_84 ?_
    refine z_i2l hx hb (by omega) dX1_digest_87 ?_
    refine zVw_v (As := [.long (jI (zse u))]) (rest := []) ⟨hx, hb, hml, hown, hts⟩ (PM g u (wh v hh)) (PM_blind g u (wh v hh)) (PM_mv hP hK) (rcM hK hP) (c_X1_mix l g u ((wh v hh)) hg (zse u)) (cwV 1 hts gX1_digest_X1_mix rfl rfl rfl (by decide +kernel) ⟨Nat.le_of_ble_eq_true rfl, Nat.le_of_ble_eq_true rfl⟩) rfl hl.1 rfl (Nat.le_of_ble_eq_true rfl) dX1_digest_88 ⟨Nat.zero_le _, Nat.zero_le _⟩ hS (fun _ h => h) (fun H locs hP hH1 hH2 hS => ?_)
    have hP : va_P (gD g) vwCl (wM g u (wh v (mx hh (zse u)))) H := hP
    refine lv_aload_n hx hb dX1_digest_91 rfl (lv_at hl 0 rfl) ?_
    refine lv_aload_n hx hb dX1_digest_92 rfl (lv_at hl 0 rfl) ?_
    refine gf_X1_116 (z := zdr u) hx hb hts hin m116 hown hK hP rfl dX1_digest_93 ?_
    refine z_i2l hx hb (by omega) dX1_digest_96 ?_
    refine zVw_v (As := [.long (jI (zdr u))]) (rest := []) ⟨hx, hb, hml, hown, hts⟩ (PM g u (wh v (mx hh (zse u)))) (PM_blind g u (wh v (mx hh (zse u)))) (PM_mv hP hK) (rcM hK hP) (c_X1_mix l g u ((wh v (mx hh (zse u)))) hg (zdr u)) (cwV 1 hts gX1_digest_X1_mix rfl rfl rfl (by decide +kernel) ⟨Nat.le_of_ble_eq_true rfl, Nat.le_of_ble_eq_true rfl⟩) rfl hl.1 rfl (Nat.le_of_ble_eq_true rfl) dX1_digest_97 ⟨Nat.zero_le _, Nat.zero_le _⟩ hS (fun _ h => h) (fun H locs hP hH1 hH2 hS => ?_)
    have hP : va_P (gD g) vwCl (wM g u (wh v (mx (mx hh (zse u)) (zdr u)))) H := hP
    refine z_iconst hx hb dX1_digest_100 ?_
    refine lv_istore_n (lv' := [(2, .int (iI 0)), (0, .ref (gM g 0)), (1, .int (iI f))]) hx hb dX1_digest_101 rfl hl (by decide) rfl (fun ls hl => ?_)
    refine z_loopW2 (nL := 3) (fun t hh => (0 ≤ t ∧ t ≤ zpg u + 1) ∧ (hh = dgm u (mx (mx (dgp u (mx 1811 (zpg u)) (zpg u)) (zse u)) (zdr u)) t)) (fun t hh => (zpg u + 1 - t).toNat) (fun t hh => [(0, .ref (gM g 0)), (1, .int (iI f)), (2, .int (iI t))]) (fun t hh H9 => va_P (gD g) vwCl (wM g u (wh v hh)) H9) (fun t hh H locs ls hinv hP hS hl ih_102 => ?_) 0 (mx (mx hh (zse u)) (zdr u)) _ _ ls ⟨(by omega), (by rw [dgm_0 (Int.le_refl _), q3z, show t = zpg u by omega])⟩ hP hS (lv_sub hl [1, 2, 0] rfl)
    have hinv : (0 ≤ t ∧ t ≤ zpg u + 1) ∧ (hh = dgm u (mx (mx (dgp u (mx 1811 (zpg u)) (zpg u)) (zse u)) (zdr u)) t) := hinv
    obtain ⟨q1z, q3z⟩ := hinv
    have hl : lv_has ls 3 [(0, .ref (gM g 0)), (1, .int (iI f)), (2, .int (iI t))] := hl
    have hP : va_P (gD g) vwCl (wM g u (wh v hh)) H := hP
    have hl9 := iv_fx hI t
    refine lv_iload_n hx hb dX1_digest_102 rfl (lv_at hl 2 rfl) ?_
    refine lv_aload_n hx hb dX1_digest_103 rfl (lv_at hl 0 rfl) ?_
    refine gf_X1_91 (z := zpg u) hx hb hts hin m91 hown hK hP rfl dX1_digest_104 ?_
    refine z_icmp_gt (tgt := 174) hx hb dX1_digest_107 (by decide) (by omega) (by omega) (fun c_2 => ?_) (fun c_2 => ?_)
    · have e4z : dig4 u = mx (mx hh (dist u 0 (zpg u))) (br u 0 (zpg u)) := by unfold dig4; rw [q3z, show t = zpg u + 1 by omega]
      refine lv_aload_n hx hb dX1_digest_174 rfl (lv_at hl 0 rfl) ?_
      refine lv_aload_n hx hb dX1_digest_175 rfl (lv_at hl 0 rfl) ?_
      refine z_iconst hx hb dX1_digest_176 ?_
      refine lv_aload_n hx hb dX1_digest_177 rfl (lv_at hl 0 rfl) ?_
      refine gf_X1_91 (z := zpg u) hx hb hts hin m91 hown hK hP rfl dX1_digest_178 ?_
      refine zV_l (As := [.int (iI 0), .int (iI (zpg u))]) (rest := [.ref (gM g 0)]) ⟨hx, hb, hml, hown, hts⟩ (PM g u (wh v hh)) (PM_blind g u (wh v hh)) (PM_mv hP hK) (rcM hK hP) (c_X1_distanceNow l g u ((wh v hh)) 0 (zpg u) hI (by omega) (by omega)) (cwV 2 hts gX1_digest_X1_distanceNow rfl rfl rfl (by decide +kernel) ⟨Nat.le_of_ble_eq_true rfl, Nat.le_of_ble_eq_true rfl⟩) rfl hl.1 rfl (Nat.le_of_ble_eq_true rfl) dX1_digest_181 ⟨Nat.zero_le _, Nat.zero_le _⟩ ?_
      refine zVw_v (As := [.long (jI (dist u 0 (zpg u)))]) (rest := []) ⟨hx, hb, hml, hown, hts⟩ (PM g u (wh v hh)) (PM_blind g u (wh v hh)) (PM_mv hP hK) (rcM hK hP) (c_X1_mix l g u ((wh v hh)) hg (dist u 0 (zpg u))) (cwV 1 hts gX1_digest_X1_mix rfl rfl rfl (by decide +kernel) ⟨Nat.le_of_ble_eq_true rfl, Nat.le_of_ble_eq_true rfl⟩) rfl hl.1 rfl (Nat.le_of_ble_eq_true rfl) dX1_digest_184 ⟨Nat.zero_le _, Nat.zero_le _⟩ hS (fun _ h => h) (fun H locs hP hH1 hH2 hS => ?_)
      have hP : va_P (gD g) vwCl (wM g u (wh v (mx hh (dist u 0 (zpg u))))) H := hP
      refine lv_aload_n hx hb dX1_digest_187 rfl (lv_at hl 0 rfl) ?_
      refine lv_aload_n hx hb dX1_digest_188 rfl (lv_at hl 0 rfl) ?_
      refine z_iconst hx hb dX1_digest_189 ?_
      refine lv_aload_n hx hb dX1_digest_190 rfl (lv_at hl 0 rfl) ?_
      refine gf_X1_91 (z := zpg u) hx hb hts hin m91 hown hK hP rfl dX1_digest_191 ?_
      refine zV_l (As := [.int (iI 0), .int (iI (zpg u))]) (rest := [.ref (gM g 0)]) ⟨hx, hb, hml, hown, hts⟩ (PM g u (wh v (mx hh (dist u 0 (zpg u))))) (PM_blind g u (wh v (mx hh (dist u 0 (zpg u))))) (PM_mv hP hK) (rcM hK hP) (c_X1_bearingNow l g u ((wh v (mx hh (dist u 0 (zpg u))))) 0 (zpg u) hI (by omega) (by omega)) (cwV 2 hts gX1_digest_X1_bearingNow rfl rfl rfl (by decide +kernel) ⟨Nat.le_of_ble_eq_true rfl, Nat.le_of_ble_eq_true rfl⟩) rfl hl.1 rfl (Nat.le_of_ble_eq_true rfl) dX1_digest_194 ⟨Nat.zero_le _, Nat.zero_le _⟩ ?_
      refine zVw_v (As := [.long (jI (br u 0 (zpg u)))]) (rest := []) ⟨hx, hb, hml, hown, hts⟩ (PM g u (wh v (mx hh (dist u 0 (zpg u))))) (PM_blind g u (wh v (mx hh (dist u 0 (zpg u))))) (PM_mv hP hK) (rcM hK hP) (c_X1_mix l g u ((wh v (mx hh (dist u 0 (zpg u))))) hg (br u 0 (zpg u))) (cwV 1 hts gX1_digest_X1_mix rfl rfl rfl (by decide +kernel) ⟨Nat.le_of_ble_eq_true rfl, Nat.le_of_ble_eq_true rfl⟩) rfl hl.1 rfl (Nat.le_of_ble_eq_true rfl) dX1_digest_197 ⟨Nat.zero_le _, Nat.zero_le _⟩ hS (fun _ h => h) (fun H locs hP hH1 hH2 hS => ?_)
      have hP : va_P (gD g) vwCl (wM g u (wh v (mx (mx hh (dist u 0 (zpg u))) (br u 0 (zpg u))))) H := hP
      refine lv_iload_n hx hb dX1_digest_200 rfl (lv_at hl 1 rfl) ?_
      refine z_if_lt (tgt := 213) hx hb dX1_digest_201 (by decide) (by omega) (fun c_3 => ?_) (fun c_3 => ?_)
      · have e5z : dig5 u = mx (mx hh (dist u 0 (zpg u))) (br u 0 (zpg u)) := by unfold dig5; rw [if_pos (by omega), e4z]
        refine lv_aload_n hx hb dX1_digest_213 rfl (lv_at hl 0 rfl) ?_
        refine lv_aload_n hx hb dX1_digest_214 rfl (lv_at hl 0 rfl) ?_
        refine gf_X1_53 (z := zbl u) hx hb hts hin m53 hown hK hP rfl dX1_digest_215 ?_
        refine z_i2l hx hb (by omega) dX1_digest_218 ?_
        refine zVw_v (As := [.long (jI (zbl u))]) (rest := []) ⟨hx, hb, hml, hown, hts⟩ (PM g u (wh v (mx (mx hh (dist u 0 (zpg u))) (br u 0 (zpg u))))) (PM_blind g u (wh v (mx (mx hh (dist u 0 (zpg u))) (br u 0 (zpg u))))) (PM_mv hP hK) (rcM hK hP) (c_X1_mix l g u ((wh v (mx (mx hh (dist u 0 (zpg u))) (br u 0 (zpg u))))) hg (zbl u)) (cwV 1 hts gX1_digest_X1_mix rfl rfl rfl (by decide +kernel) ⟨Nat.le_of_ble_eq_true rfl, Nat.le_of_ble_eq_true rfl⟩) rfl hl.1 rfl (Nat.le_of_ble_eq_true rfl) dX1_digest_219 ⟨Nat.zero_le _, Nat.zero_le _⟩ hS (fun _ h => h) (fun H locs hP hH1 hH2 hS => ?_)
        have hP : va_P (gD g) vwCl (wM g u (wh v (mx (mx (mx hh (dist u 0 (zpg u))) (br u 0 (zpg u))) (zbl u)))) H := hP
        refine z_iconst hx hb dX1_digest_222 ?_
        refine lv_istore_n (lv' := [(2, .int (iI 0)), (0, .ref (gM g 0)), (1, .int (iI f))]) hx hb dX1_digest_223 rfl hl (by decide) rfl (fun ls hl => ?_)
        refine z_loopW2 (nL := 3) (fun t hh => (0 ≤ t ∧ t ≤ zbl u) ∧ (hh = dgb u (mx (dig5 u) (zbl u)) t)) (fun t hh => (zbl u - t).toNat) (fun t hh => [(0, .ref (gM g 0)), (1, .int (iI f)), (2, .int (iI t))]) (fun t hh H9 => va_P (gD g) vwCl (wM g u (wh v hh)) H9) (fun t hh H locs ls hinv hP hS hl ih_224 => ?_) 0 (mx (mx (mx hh (dist u 0 (zpg u))) (br u 0 (zpg u))) (zbl u)) _ _ ls ⟨(by omega), (by rw [dgb_0 (Int.le_refl _), ← e5z])⟩ hP hS (lv_sub hl [1, 2, 0] rfl)
        have hinv : (0 ≤ t ∧ t ≤ zbl u) ∧ (hh = dgb u (mx (dig5 u) (zbl u)) t) := hinv
        obtain ⟨q1z, q3z⟩ := hinv
        have hl : lv_has ls 3 [(0, .ref (gM g 0)), (1, .int (iI f)), (2, .int (iI t))] := hl
        have hP : va_P (gD g) vwCl (wM g u (wh v hh)) H := hP
        refine lv_iload_n hx hb dX1_digest_224 rfl (lv_at hl 2 rfl) ?_
        refine lv_aload_n hx hb dX1_digest_225 rfl (lv_at hl 0 rfl) ?_
        refine gf_X1_53 (z := zbl u) hx hb hts hin m53 hown hK hP rfl dX1_digest_226 ?_
        refine z_icmp_ge (tgt := 249) hx hb dX1_digest_229 (by decide) (by omega) (by omega) (fun c_4 => ?_) (fun c_4 => ?_)
        · refine lv_aload_n hx hb dX1_digest_249 rfl (lv_at hl 0 rfl) ?_
          refine gf_X1_194 (z := hh) hx hb hts hin m194 hown hK hP rfl dX1_digest_250 ?_
          exact zw_l (Post := (fun H9 => va_P (gD g) vwCl (wM g u (wh v (dig u))) H9)) hx hb hr hlocks dX1_digest_253 hS (by unfold dig; rw [q3z, show t = zbl u by omega]) (by rw [show dig u = hh by unfold dig; rw [q3z, show t = zbl u by omega]]; exact hP)
        · refine lv_aload_n hx hb dX1_digest_232 rfl (lv_at hl 0 rfl) ?_
          refine lv_aload_n hx hb dX1_digest_233 rfl (lv_at hl 0 rfl) ?_
          refine gf_X1_7 hx hb hts hin m7z hown hK hP dX1_digest_234 ?_
          refine lv_iload_n hx hb dX1_digest_237 rfl (lv_at hl 2 rfl) ?_
          refine al_X1_1 hx hb hK hP ⟨by omega, by omega⟩ dX1_digest_238 ?_
          have hv_5 := iv_bu hI t
          refine z_i2l hx hb (by omega) dX1_digest_239 ?_
          refine zVw_v (As := [.long (jI (zbu u t))]) (rest := []) ⟨hx, hb, hml, hown, hts⟩ (PM g u (wh v hh)) (PM_blind g u (wh v hh)) (PM_mv hP hK) (rcM hK hP) (c_X1_mix l g u ((wh v hh)) hg (zbu u t)) (cwV 1 hts gX1_digest_X1_mix rfl rfl rfl (by decide +kernel) ⟨Nat.le_of_ble_eq_true rfl, Nat.le_of_ble_eq_true rfl⟩) rfl hl.1 rfl (Nat.le_of_ble_eq_true rfl) dX1_digest_240 ⟨Nat.zero_le _, Nat.zero_le _⟩ hS (fun _ h => h) (fun H locs hP hH1 hH2 hS => ?_)
          have hP : va_P (gD g) vwCl (wM g u (wh v (mx hh (zbu u t)))) H := hP
          refine z_iinc (k := 2) (lv' := [(2, .int (iI (t + 1))), (0, .ref (gM g 0)), (1, .int (iI f))]) hx hb dX1_digest_243 hl rfl (by decide) rfl (fun ls hl => ?_)
          refine lv_goto (tgt := 224) hx hb dX1_digest_246 (by decide) ?_
          exact ih_224 (t + 1) (mx hh (zbu u t)) _ _ ls ⟨(by omega), (by rw [dgb_s q1z.1, ← q3z])⟩ hP hS (show (zbl u - (t + 1)).toNat < (zbl u - t).toNat by omega) (lv_sub hl [1, 2, 0] rfl)
      · have e5z : dig5 u = mx (mx (mx hh (dist u 0 (zpg u))) (br u 0 (zpg u))) (fdl u f) := by unfold dig5; rw [if_neg (by omega), e4z, q4z]
        refine lv_aload_n hx hb dX1_digest_204 rfl (lv_at hl 0 rfl) ?_
        refine lv_aload_n hx hb dX1_digest_205 rfl (lv_at hl 0 rfl) ?_
        refine lv_iload_n hx hb dX1_digest_206 rfl (lv_at hl 1 rfl) ?_
        refine zV_l (As := [.int (iI f)]) (rest := [.ref (gM g 0)]) ⟨hx, hb, hml, hown, hts⟩ (PM g u (wh v (mx (mx hh (dist u 0 (zpg u))) (br u 0 (zpg u))))) (PM_blind g u (wh v (mx (mx hh (dist u 0 (zpg u))) (br u 0 (zpg u))))) (PM_mv hP hK) (rcM hK hP) (c_X1_lostNow l g u ((wh v (mx (mx hh (dist u 0 (zpg u))) (br u 0 (zpg u))))) f hI (by omega)) (cwV 1 hts gX1_digest_X1_lostNow rfl rfl rfl (by decide +kernel) ⟨Nat.le_of_ble_eq_true rfl, Nat.le_of_ble_eq_true rfl⟩) rfl hl.1 rfl (Nat.le_of_ble_eq_true rfl) dX1_digest_207 ⟨Nat.zero_le _, Nat.zero_le _⟩ ?_
        refine zVw_v (As := [.long (jI (fdl u f))]) (rest := []) ⟨hx, hb, hml, hown, hts⟩ (PM g u (wh v (mx (mx hh (dist u 0 (zpg u))) (br u 0 (zpg u))))) (PM_blind g u (wh v (mx (mx hh (dist u 0 (zpg u))) (br u 0 (zpg u))))) (PM_mv hP hK) (rcM hK hP) (c_X1_mix l g u ((wh v (mx (mx hh (dist u 0 (zpg u))) (br u 0 (zpg u))))) hg (fdl u f)) (cwV 1 hts gX1_digest_X1_mix rfl rfl rfl (by decide +kernel) ⟨Nat.le_of_ble_eq_true rfl, Nat.le_of_ble_eq_true rfl⟩) rfl hl.1 rfl (Nat.le_of_ble_eq_true rfl) dX1_digest_210 ⟨Nat.zero_le _, Nat.zero_le _⟩ hS (fun _ h => h) (fun H locs hP hH1 hH2 hS => ?_)
        have hP : va_P (gD g) vwCl (wM g u (wh v (mx (mx (mx hh (dist u 0 (zpg u))) (br u 0 (zpg u))) (fdl u f)))) H := hP
        refine lv_aload_n hx hb dX1_digest_213 rfl (lv_at hl 0 rfl) ?_
        refine lv_aload_n hx hb dX1_digest_214 rfl (lv_at hl 0 rfl) ?_
        refine gf_X1_53 (z := zbl u) hx hb hts hin m53 hown hK hP rfl dX1_digest_215 ?_
        refine z_i2l hx hb (by omega) dX1_digest_218 ?_
        refine zVw_v (As := [.long (jI (zbl u))]) (rest := []) ⟨hx, hb, hml, hown, hts⟩ (PM g u (wh v (mx (mx (mx hh (dist u 0 (zpg u))) (br u 0 (zpg u))) (fdl u f)))) (PM_blind g u (wh v (mx (mx (mx hh (dist u 0 (zpg u))) (br u 0 (zpg u))) (fdl u f)))) (PM_mv hP hK) (rcM hK hP) (c_X1_mix l g u ((wh v (mx (mx (mx hh (dist u 0 (zpg u))) (br u 0 (zpg u))) (fdl u f)))) hg (zbl u)) (cwV 1 hts gX1_digest_X1_mix rfl rfl rfl (by decide +kernel) ⟨Nat.le_of_ble_eq_true rfl, Nat.le_of_ble_eq_true rfl⟩) rfl hl.1 rfl (Nat.le_of_ble_eq_true rfl) dX1_digest_219 ⟨Nat.zero_le _, Nat.zero_le _⟩ hS (fun _ h => h) (fun H locs hP hH1 hH2 hS => ?_)
        have hP : va_P (gD g) vwCl (wM g u (wh v (mx (mx (mx (mx hh (dist u 0 (zpg u))) (br u 0 (zpg u))) (fdl u f)) (zbl u)))) H := hP
        refine z_iconst hx hb dX1_digest_222 ?_
        refine lv_istore_n (lv' := [(2, .int (iI 0)), (0, .ref (gM g 0)), (1, .int (iI f))]) hx hb dX1_digest_223 rfl hl (by decide) rfl (fun ls hl => ?_)
        refine z_loopW2 (nL := 3) (fun t hh => (0 ≤ t ∧ t ≤ zbl u) ∧ (hh = dgb u (mx (dig5 u) (zbl u)) t)) (fun t hh => (zbl u - t).toNat) (fun t hh => [(0, .ref (gM g 0)), (1, .int (iI f)), (2, .int (iI t))]) (fun t hh H9 => va_P (gD g) vwCl (wM g u (wh v hh)) H9) (fun t hh H locs ls hinv hP hS hl ih_224 => ?_) 0 (mx (mx (mx (mx hh (dist u 0 (zpg u))) (br u 0 (zpg u))) (fdl u f)) (zbl u)) _ _ ls ⟨(by omega), (by rw [dgb_0 (Int.le_refl _), ← e5z])⟩ hP hS (lv_sub hl [1, 2, 0] rfl)
        have hinv : (0 ≤ t ∧ t ≤ zbl u) ∧ (hh = dgb u (mx (dig5 u) (zbl u)) t) := hinv
        obtain ⟨q1z, q3z⟩ := hinv
        have hl : lv_has ls 3 [(0, .ref (gM g 0)), (1, .int (iI f)), (2, .int (iI t))] := hl
        have hP : va_P (gD g) vwCl (wM g u (wh v hh)) H := hP
        refine lv_iload_n hx hb dX1_digest_224 rfl (lv_at hl 2 rfl) ?_
        refine lv_aload_n hx hb dX1_digest_225 rfl (lv_at hl 0 rfl) ?_
        refine gf_X1_53 (z := zbl u) hx hb hts hin m53 hown hK hP rfl dX1_digest_226 ?_
        refine z_icmp_ge (tgt := 249) hx hb dX1_digest_229 (by decide) (by omega) (by omega) (fun c_6 => ?_) (fun c_6 => ?_)
        · refine lv_aload_n hx hb dX1_digest_249 rfl (lv_at hl 0 rfl) ?_
          refine gf_X1_194 (z := hh) hx hb hts hin m194 hown hK hP rfl dX1_digest_250 ?_
          exact zw_l (Post := (fun H9 => va_P (gD g) vwCl (wM g u (wh v (dig u))) H9)) hx hb hr hlocks dX1_digest_253 hS (by unfold dig; rw [q3z, show t = zbl u by omega]) (by rw [show dig u = hh by unfold dig; rw [q3z, show t = zbl u by omega]]; exact hP)
        · refine lv_aload_n hx hb dX1_digest_232 rfl (lv_at hl 0 rfl) ?_
          refine lv_aload_n hx hb dX1_digest_233 rfl (lv_at hl 0 rfl) ?_
          refine gf_X1_7 hx hb hts hin m7z hown hK hP dX1_digest_234 ?_
          refine lv_iload_n hx hb dX1_digest_237 rfl (lv_at hl 2 rfl) ?_
          refine al_X1_1 hx hb hK hP ⟨by omega, by omega⟩ dX1_digest_238 ?_
          have hv_7 := iv_bu hI t
          refine z_i2l hx hb (by omega) dX1_digest_239 ?_
          refine zVw_v (As := [.long (jI (zbu u t))]) (rest := []) ⟨hx, hb, hml, hown, hts⟩ (PM g u (wh v hh)) (PM_blind g u (wh v hh)) (PM_mv hP hK) (rcM hK hP) (c_X1_mix l g u ((wh v hh)) hg (zbu u t)) (cwV 1 hts gX1_digest_X1_mix rfl rfl rfl (by decide +kernel) ⟨Nat.le_of_ble_eq_true rfl, Nat.le_of_ble_eq_true rfl⟩) rfl hl.1 rfl (Nat.le_of_ble_eq_true rfl) dX1_digest_240 ⟨Nat.zero_le _, Nat.zero_le _⟩ hS (fun _ h => h) (fun H locs hP hH1 hH2 hS => ?_)
          have hP : va_P (gD g) vwCl (wM g u (wh v (mx hh (zbu u t)))) H := hP
          refine z_iinc (k := 2) (lv' := [(2, .int (iI (t + 1))), (0, .ref (gM g 0)), (1, .int (iI f))]) hx hb dX1_digest_243 hl rfl (by decide) rfl (fun ls hl => ?_)
          refine lv_goto (tgt := 224) hx hb dX1_digest_246 (by decide) ?_
          exact ih_224 (t + 1) (mx hh (zbu u t)) _ _ ls ⟨(by omega), (by rw [dgb_s q1z.1, ← q3z])⟩ hP hS (show (zbl u - (t + 1)).toNat < (zbl u - t).toNat by omega) (lv_sub hl [1, 2, 0] rfl)
    · refine lv_aload_n hx hb dX1_digest_110 rfl (lv_at hl 0 rfl) ?_
      refine lv_aload_n hx hb dX1_digest_111 rfl (lv_at hl 0 rfl) ?_
      refine gf_X1_26 hx hb hts hin m26 hown hK hP dX1_digest_112 ?_
      refine lv_iload_n hx hb dX1_digest_115 rfl (lv_at hl 2 rfl) ?_
      refine al_X1_6 hx hb hK hP ⟨by omega, by omega⟩ dX1_digest_116 ?_
      have hv_8 := iv_fx hI t
      refine z_if_eq (tgt := 124) hx hb dX1_digest_117 (by decide) (by omega) (fun c_9 => ?_) (fun c_9 => ?_)
      · refine z_lconst (z := 0) hx hb dX1_digest_124 rfl ?_
        refine zVw_v (As := [.long (jI 0)]) (rest := []) ⟨hx, hb, hml, hown, hts⟩ (PM g u (wh v hh)) (PM_blind g u (wh v hh)) (PM_mv hP hK) (rcM hK hP) (c_X1_mix l g u ((wh v hh)) hg 0) (cwV 1 hts gX1_digest_X1_mix rfl rfl rfl (by decide +kernel) ⟨Nat.le_of_ble_eq_true rfl, Nat.le_of_ble_eq_true rfl⟩) rfl hl.1 rfl (Nat.le_of_ble_eq_true rfl) dX1_digest_125 ⟨Nat.zero_le _, Nat.zero_le _⟩ hS (fun _ h => h) (fun H locs hP hH1 hH2 hS => ?_)
        have hP : va_P (gD g) vwCl (wM g u (wh v (mx hh 0))) H := hP
        refine lv_aload_n hx hb dX1_digest_128 rfl (lv_at hl 0 rfl) ?_
        refine lv_aload_n hx hb dX1_digest_129 rfl (lv_at hl 0 rfl) ?_
        refine lv_iload_n hx hb dX1_digest_130 rfl (lv_at hl 2 rfl) ?_
        refine z_iconst hx hb dX1_digest_131 ?_
        refine zV_l (As := [.int (iI t), .int (iI 0)]) (rest := [.ref (gM g 0)]) ⟨hx, hb, hml, hown, hts⟩ (PM g u (wh v (mx hh 0))) (PM_blind g u (wh v (mx hh 0))) (PM_mv hP hK) (rcM hK hP) (c_X1_reckoned l g u ((wh v (mx hh 0))) t 0 8 hI (by omega) (by omega) (by omega)) (cwV 2 hts gX1_digest_X1_reckoned rfl rfl rfl (by decide +kernel) ⟨Nat.le_of_ble_eq_true rfl, Nat.le_of_ble_eq_true rfl⟩) rfl hl.1 rfl (Nat.le_of_ble_eq_true rfl) dX1_digest_132 ⟨Nat.zero_le _, Nat.zero_le _⟩ ?_
        refine zVw_v (As := [.long (jI (rk u 8 t))]) (rest := []) ⟨hx, hb, hml, hown, hts⟩ (PM g u (wh v (mx hh 0))) (PM_blind g u (wh v (mx hh 0))) (PM_mv hP hK) (rcM hK hP) (c_X1_mix l g u ((wh v (mx hh 0))) hg (rk u 8 t)) (cwV 1 hts gX1_digest_X1_mix rfl rfl rfl (by decide +kernel) ⟨Nat.le_of_ble_eq_true rfl, Nat.le_of_ble_eq_true rfl⟩) rfl hl.1 rfl (Nat.le_of_ble_eq_true rfl) dX1_digest_135 ⟨Nat.zero_le _, Nat.zero_le _⟩ hS (fun _ h => h) (fun H locs hP hH1 hH2 hS => ?_)
        have hP : va_P (gD g) vwCl (wM g u (wh v (mx (mx hh 0) (rk u 8 t)))) H := hP
        refine lv_aload_n hx hb dX1_digest_138 rfl (lv_at hl 0 rfl) ?_
        refine lv_aload_n hx hb dX1_digest_139 rfl (lv_at hl 0 rfl) ?_
        refine lv_iload_n hx hb dX1_digest_140 rfl (lv_at hl 2 rfl) ?_
        refine z_iconst hx hb dX1_digest_141 ?_
        refine zV_l (As := [.int (iI t), .int (iI 1)]) (rest := [.ref (gM g 0)]) ⟨hx, hb, hml, hown, hts⟩ (PM g u (wh v (mx (mx hh 0) (rk u 8 t)))) (PM_blind g u (wh v (mx (mx hh 0) (rk u 8 t)))) (PM_mv hP hK) (rcM hK hP) (c_X1_reckoned l g u ((wh v (mx (mx hh 0) (rk u 8 t)))) t 1 0 hI (by omega) (by omega) (by omega)) (cwV 2 hts gX1_digest_X1_reckoned rfl rfl rfl (by decide +kernel) ⟨Nat.le_of_ble_eq_true rfl, Nat.le_of_ble_eq_true rfl⟩) rfl hl.1 rfl (Nat.le_of_ble_eq_true rfl) dX1_digest_142 ⟨Nat.zero_le _, Nat.zero_le _⟩ ?_
        refine zVw_v (As := [.long (jI (rk u 0 t))]) (rest := []) ⟨hx, hb, hml, hown, hts⟩ (PM g u (wh v (mx (mx hh 0) (rk u 8 t)))) (PM_blind g u (wh v (mx (mx hh 0) (rk u 8 t)))) (PM_mv hP hK) (rcM hK hP) (c_X1_mix l g u ((wh v (mx (mx hh 0) (rk u 8 t)))) hg (rk u 0 t)) (cwV 1 hts gX1_digest_X1_mix rfl rfl rfl (by decide +kernel) ⟨Nat.le_of_ble_eq_true rfl, Nat.le_of_ble_eq_true rfl⟩) rfl hl.1 rfl (Nat.le_of_ble_eq_true rfl) dX1_digest_145 ⟨Nat.zero_le _, Nat.zero_le _⟩ hS (fun _ h => h) (fun H locs hP hH1 hH2 hS => ?_)
        have hP : va_P (gD g) vwCl (wM g u (wh v (mx (mx (mx hh 0) (rk u 8 t)) (rk u 0 t)))) H := hP
        refine lv_aload_n hx hb dX1_digest_148 rfl (lv_at hl 0 rfl) ?_
        refine lv_aload_n hx hb dX1_digest_149 rfl (lv_at hl 0 rfl) ?_
        refine lv_iload_n hx hb dX1_digest_150 rfl (lv_at hl 2 rfl) ?_
        refine z_iconst hx hb dX1_digest_151 ?_
        refine zV_l (As := [.int (iI t), .int (iI 0)]) (rest := [.ref (gM g 0)]) ⟨hx, hb, hml, hown, hts⟩ (PM g u (wh v (mx (mx (mx hh 0) (rk u 8 t)) (rk u 0 t)))) (PM_blind g u (wh v (mx (mx (mx hh 0) (rk u 8 t)) (rk u 0 t)))) (PM_mv hP hK) (rcM hK hP) (c_X1_corrected l g u ((wh v (mx (mx (mx hh 0) (rk u 8 t)) (rk u 0 t)))) t 0 8 hI (by omega) (by omega) (by omega)) (cwV 2 hts gX1_digest_X1_corrected rfl rfl rfl (by decide +kernel) ⟨Nat.le_of_ble_eq_true rfl, Nat.le_of_ble_eq_true rfl⟩) rfl hl.1 rfl (Nat.le_of_ble_eq_true rfl) dX1_digest_152 ⟨Nat.zero_le _, Nat.zero_le _⟩ ?_
        refine zVw_v (As := [.long (jI (co u 8 t))]) (rest := []) ⟨hx, hb, hml, hown, hts⟩ (PM g u (wh v (mx (mx (mx hh 0) (rk u 8 t)) (rk u 0 t)))) (PM_blind g u (wh v (mx (mx (mx hh 0) (rk u 8 t)) (rk u 0 t)))) (PM_mv hP hK) (rcM hK hP) (c_X1_mix l g u ((wh v (mx (mx (mx hh 0) (rk u 8 t)) (rk u 0 t)))) hg (co u 8 t)) (cwV 1 hts gX1_digest_X1_mix rfl rfl rfl (by decide +kernel) ⟨Nat.le_of_ble_eq_true rfl, Nat.le_of_ble_eq_true rfl⟩) rfl hl.1 rfl (Nat.le_of_ble_eq_true rfl) dX1_digest_155 ⟨Nat.zero_le _, Nat.zero_le _⟩ hS (fun _ h => h) (fun H locs hP hH1 hH2 hS => ?_)
        have hP : va_P (gD g) vwCl (wM g u (wh v (mx (mx (mx (mx hh 0) (rk u 8 t)) (rk u 0 t)) (co u 8 t)))) H := hP
        refine lv_aload_n hx hb dX1_digest_158 rfl (lv_at hl 0 rfl) ?_
        refine lv_aload_n hx hb dX1_digest_159 rfl (lv_at hl 0 rfl) ?_
        refine lv_iload_n hx hb dX1_digest_160 rfl (lv_at hl 2 rfl) ?_
        refine z_iconst hx hb dX1_digest_161 ?_
        refine zV_l (As := [.int (iI t), .int (iI 1)]) (rest := [.ref (gM g 0)]) ⟨hx, hb, hml, hown, hts⟩ (PM g u (wh v (mx (mx (mx (mx hh 0) (rk u 8 t)) (rk u 0 t)) (co u 8 t)))) (PM_blind g u (wh v (mx (mx (mx (mx hh 0) (rk u 8 t)) (rk u 0 t)) (co u 8 t)))) (PM_mv hP hK) (rcM hK hP) (c_X1_corrected l g u ((wh v (mx (mx (mx (mx hh 0) (rk u 8 t)) (rk u 0 t)) (co u 8 t)))) t 1 0 hI (by omega) (by omega) (by omega)) (cwV 2 hts gX1_digest_X1_corrected rfl rfl rfl (by decide +kernel) ⟨Nat.le_of_ble_eq_true rfl, Nat.le_of_ble_eq_true rfl⟩) rfl hl.1 rfl (Nat.le_of_ble_eq_true rfl) dX1_digest_162 ⟨Nat.zero_le _, Nat.zero_le _⟩ ?_
        refine zVw_v (As := [.long (jI (co u 0 t))]) (rest := []) ⟨hx, hb, hml, hown, hts⟩ (PM g u (wh v (mx (mx (mx (mx hh 0) (rk u 8 t)) (rk u 0 t)) (co u 8 t)))) (PM_blind g u (wh v (mx (mx (mx (mx hh 0) (rk u 8 t)) (rk u 0 t)) (co u 8 t)))) (PM_mv hP hK) (rcM hK hP) (c_X1_mix l g u ((wh v (mx (mx (mx (mx hh 0) (rk u 8 t)) (rk u 0 t)) (co u 8 t)))) hg (co u 0 t)) (cwV 1 hts gX1_digest_X1_mix rfl rfl rfl (by decide +kernel) ⟨Nat.le_of_ble_eq_true rfl, Nat.le_of_ble_eq_true rfl⟩) rfl hl.1 rfl (Nat.le_of_ble_eq_true rfl) dX1_digest_165 ⟨Nat.zero_le _, Nat.zero_le _⟩ hS (fun _ h => h) (fun H locs hP hH1 hH2 hS => ?_)
        have hP : va_P (gD g) vwCl (wM g u (wh v (mx (mx (mx (mx (mx hh 0) (rk u 8 t)) (rk u 0 t)) (co u 8 t)) (co u 0 t)))) H := hP
        refine z_iinc (k := 2) (lv' := [(2, .int (iI (t + 1))), (0, .ref (gM g 0)), (1, .int (iI f))]) hx hb dX1_digest_168 hl rfl (by decide) rfl (fun ls hl => ?_)
        refine lv_goto (tgt := 102) hx hb dX1_digest_171 (by decide) ?_
        exact ih_102 (t + 1) (mx (mx (mx (mx (mx hh 0) (rk u 8 t)) (rk u 0 t)) (co u 8 t)) (co u 0 t)) _ _ ls ⟨(by omega), (by rw [dgm_s q1z.1, ← q3z]; first | rw [show zfx u t = 0 by omega] | rw [show zfx u t = 1 by omega])⟩ hP hS (show (zpg u + 1 - (t + 1)).toNat < (zpg u + 1 - t).toNat by omega) (lv_sub hl [1, 2, 0] rfl)
      · refine z_lconst (z := 1) hx hb dX1_digest_120 rfl ?_
        refine lv_goto (tgt := 125) hx hb dX1_digest_121 (by decide) ?_
        refine zVw_v (As := [.long (jI 1)]) (rest := []) ⟨hx, hb, hml, hown, hts⟩ (PM g u (wh v hh)) (PM_blind g u (wh v hh)) (PM_mv hP hK) (rcM hK hP) (c_X1_mix l g u ((wh v hh)) hg 1) (cwV 1 hts gX1_digest_X1_mix rfl rfl rfl (by decide +kernel) ⟨Nat.le_of_ble_eq_true rfl, Nat.le_of_ble_eq_true rfl⟩) rfl hl.1 rfl (Nat.le_of_ble_eq_true rfl) dX1_digest_125 ⟨Nat.zero_le _, Nat.zero_le _⟩ hS (fun _ h => h) (fun H locs hP hH1 hH2 hS => ?_)
        have hP : va_P (gD g) vwCl (wM g u (wh v (mx hh 1))) H := hP
        refine lv_aload_n hx hb dX1_digest_128 rfl (lv_at hl 0 rfl) ?_
        refine lv_aload_n hx hb dX1_digest_129 rfl (lv_at hl 0 rfl) ?_
        refine lv_iload_n hx hb dX1_digest_130 rfl (lv_at hl 2 rfl) ?_
        refine z_iconst hx hb dX1_digest_131 ?_
        refine zV_l (As := [.int (iI t), .int (iI 0)]) (rest := [.ref (gM g 0)]) ⟨hx, hb, hml, hown, hts⟩ (PM g u (wh v (mx hh 1))) (PM_blind g u (wh v (mx hh 1))) (PM_mv hP hK) (rcM hK hP) (c_X1_reckoned l g u ((wh v (mx hh 1))) t 0 8 hI (by omega) (by omega) (by omega)) (cwV 2 hts gX1_digest_X1_reckoned rfl rfl rfl (by decide +kernel) ⟨Nat.le_of_ble_eq_true rfl, Nat.le_of_ble_eq_true rfl⟩) rfl hl.1 rfl (Nat.le_of_ble_eq_true rfl) dX1_digest_132 ⟨Nat.zero_le _, Nat.zero_le _⟩ ?_
        refine zVw_v (As := [.long (jI (rk u 8 t))]) (rest := []) ⟨hx, hb, hml, hown, hts⟩ (PM g u (wh v (mx hh 1))) (PM_blind g u (wh v (mx hh 1))) (PM_mv hP hK) (rcM hK hP) (c_X1_mix l g u ((wh v (mx hh 1))) hg (rk u 8 t)) (cwV 1 hts gX1_digest_X1_mix rfl rfl rfl (by decide +kernel) ⟨Nat.le_of_ble_eq_true rfl, Nat.le_of_ble_eq_true rfl⟩) rfl hl.1 rfl (Nat.le_of_ble_eq_true rfl) dX1_digest_135 ⟨Nat.zero_le _, Nat.zero_le _⟩ hS (fun _ h => h) (fun H locs hP hH1 hH2 hS => ?_)
        have hP : va_P (gD g) vwCl (wM g u (wh v (mx (mx hh 1) (rk u 8 t)))) H := hP
        refine lv_aload_n hx hb dX1_digest_138 rfl (lv_at hl 0 rfl) ?_
        refine lv_aload_n hx hb dX1_digest_139 rfl (lv_at hl 0 rfl) ?_
        refine lv_iload_n hx hb dX1_digest_140 rfl (lv_at hl 2 rfl) ?_
        refine z_iconst hx hb dX1_digest_141 ?_
        refine zV_l (As := [.int (iI t), .int (iI 1)]) (rest := [.ref (gM g 0)]) ⟨hx, hb, hml, hown, hts⟩ (PM g u (wh v (mx (mx hh 1) (rk u 8 t)))) (PM_blind g u (wh v (mx (mx hh 1) (rk u 8 t)))) (PM_mv hP hK) (rcM hK hP) (c_X1_reckoned l g u ((wh v (mx (mx hh 1) (rk u 8 t)))) t 1 0 hI (by omega) (by omega) (by omega)) (cwV 2 hts gX1_digest_X1_reckoned rfl rfl rfl (by decide +kernel) ⟨Nat.le_of_ble_eq_true rfl, Nat.le_of_ble_eq_true rfl⟩) rfl hl.1 rfl (Nat.le_of_ble_eq_true rfl) dX1_digest_142 ⟨Nat.zero_le _, Nat.zero_le _⟩ ?_
        refine zVw_v (As := [.long (jI (rk u 0 t))]) (rest := []) ⟨hx, hb, hml, hown, hts⟩ (PM g u (wh v (mx (mx hh 1) (rk u 8 t)))) (PM_blind g u (wh v (mx (mx hh 1) (rk u 8 t)))) (PM_mv hP hK) (rcM hK hP) (c_X1_mix l g u ((wh v (mx (mx hh 1) (rk u 8 t)))) hg (rk u 0 t)) (cwV 1 hts gX1_digest_X1_mix rfl rfl rfl (by decide +kernel) ⟨Nat.le_of_ble_eq_true rfl, Nat.le_of_ble_eq_true rfl⟩) rfl hl.1 rfl (Nat.le_of_ble_eq_true rfl) dX1_digest_145 ⟨Nat.zero_le _, Nat.zero_le _⟩ hS (fun _ h => h) (fun H locs hP hH1 hH2 hS => ?_)
        have hP : va_P (gD g) vwCl (wM g u (wh v (mx (mx (mx hh 1) (rk u 8 t)) (rk u 0 t)))) H := hP
        refine lv_aload_n hx hb dX1_digest_148 rfl (lv_at hl 0 rfl) ?_
        refine lv_aload_n hx hb dX1_digest_149 rfl (lv_at hl 0 rfl) ?_
        refine lv_iload_n hx hb dX1_digest_150 rfl (lv_at hl 2 rfl) ?_
        refine z_iconst hx hb dX1_digest_151 ?_
        refine zV_l (As := [.int (iI t), .int (iI 0)]) (rest := [.ref (gM g 0)]) ⟨hx, hb, hml, hown, hts⟩ (PM g u (wh v (mx (mx (mx hh 1) (rk u 8 t)) (rk u 0 t)))) (PM_blind g u (wh v (mx (mx (mx hh 1) (rk u 8 t)) (rk u 0 t)))) (PM_mv hP hK) (rcM hK hP) (c_X1_corrected l g u ((wh v (mx (mx (mx hh 1) (rk u 8 t)) (rk u 0 t)))) t 0 8 hI (by omega) (by omega) (by omega)) (cwV 2 hts gX1_digest_X1_corrected rfl rfl rfl (by decide +kernel) ⟨Nat.le_of_ble_eq_true rfl, Nat.le_of_ble_eq_true rfl⟩) rfl hl.1 rfl (Nat.le_of_ble_eq_true rfl) dX1_digest_152 ⟨Nat.zero_le _, Nat.zero_le _⟩ ?_
        refine zVw_v (As := [.long (jI (co u 8 t))]) (rest := []) ⟨hx, hb, hml, hown, hts⟩ (PM g u (wh v (mx (mx (mx hh 1) (rk u 8 t)) (rk u 0 t)))) (PM_blind g u (wh v (mx (mx (mx hh 1) (rk u 8 t)) (rk u 0 t)))) (PM_mv hP hK) (rcM hK hP) (c_X1_mix l g u ((wh v (mx (mx (mx hh 1) (rk u 8 t)) (rk u 0 t)))) hg (co u 8 t)) (cwV 1 hts gX1_digest_X1_mix rfl rfl rfl (by decide +kernel) ⟨Nat.le_of_ble_eq_true rfl, Nat.le_of_ble_eq_true rfl⟩) rfl hl.1 rfl (Nat.le_of_ble_eq_true rfl) dX1_digest_155 ⟨Nat.zero_le _, Nat.zero_le _⟩ hS (fun _ h => h) (fun H locs hP hH1 hH2 hS => ?_)
        have hP : va_P (gD g) vwCl (wM g u (wh v (mx (mx (mx (mx hh 1) (rk u 8 t)) (rk u 0 t)) (co u 8 t)))) H := hP
        refine lv_aload_n hx hb dX1_digest_158 rfl (lv_at hl 0 rfl) ?_
        refine lv_aload_n hx hb dX1_digest_159 rfl (lv_at hl 0 rfl) ?_
        refine lv_iload_n hx hb dX1_digest_160 rfl (lv_at hl 2 rfl) ?_
        refine z_iconst hx hb dX1_digest_161 ?_
        refine zV_l (As := [.int (iI t), .int (iI 1)]) (rest := [.ref (gM g 0)]) ⟨hx, hb, hml, hown, hts⟩ (PM g u (wh v (mx (mx (mx (mx hh 1) (rk u 8 t)) (rk u 0 t)) (co u 8 t)))) (PM_blind g u (wh v (mx (mx (mx (mx hh 1) (rk u 8 t)) (rk u 0 t)) (co u 8 t)))) (PM_mv hP hK) (rcM hK hP) (c_X1_corrected l g u ((wh v (mx (mx (mx (mx hh 1) (rk u 8 t)) (rk u 0 t)) (co u 8 t)))) t 1 0 hI (by omega) (by omega) (by omega)) (cwV 2 hts gX1_digest_X1_corrected rfl rfl rfl (by decide +kernel) ⟨Nat.le_of_ble_eq_true rfl, Nat.le_of_ble_eq_true rfl⟩) rfl hl.1 rfl (Nat.le_of_ble_eq_true rfl) dX1_digest_162 ⟨Nat.zero_le _, Nat.zero_le _⟩ ?_
        refine zVw_v (As := [.long (jI (co u 0 t))]) (rest := []) ⟨hx, hb, hml, hown, hts⟩ (PM g u (wh v (mx (mx (mx (mx hh 1) (rk u 8 t)) (rk u 0 t)) (co u 8 t)))) (PM_blind g u (wh v (mx (mx (mx (mx hh 1) (rk u 8 t)) (rk u 0 t)) (co u 8 t)))) (PM_mv hP hK) (rcM hK hP) (c_X1_mix l g u ((wh v (mx (mx (mx (mx hh 1) (rk u 8 t)) (rk u 0 t)) (co u 8 t)))) hg (co u 0 t)) (cwV 1 hts gX1_digest_X1_mix rfl rfl rfl (by decide +kernel) ⟨Nat.le_of_ble_eq_true rfl, Nat.le_of_ble_eq_true rfl⟩) rfl hl.1 rfl (Nat.le_of_ble_eq_true rfl) dX1_digest_165 ⟨Nat.zero_le _, Nat.zero_le _⟩ hS (fun _ h => h) (fun H locs hP hH1 hH2 hS => ?_)
        have hP : va_P (gD g) vwCl (wM g u (wh v (mx (mx (mx (mx (mx hh 1) (rk u 8 t)) (rk u 0 t)) (co u 8 t)) (co u 0 t)))) H := hP
        refine z_iinc (k := 2) (lv' := [(2, .int (iI (t + 1))), (0, .ref (gM g 0)), (1, .int (iI f))]) hx hb dX1_digest_168 hl rfl (by decide) rfl (fun ls hl => ?_)
        refine lv_goto (tgt := 102) hx hb dX1_digest_171 (by decide) ?_
        exact ih_102 (t + 1) (mx (mx (mx (mx (mx hh 1) (rk u 8 t)) (rk u 0 t)) (co u 8 t)) (co u 0 t)) _ _ ls ⟨(by omega), (by rw [dgm_s q1z.1, ← q3z]; first | rw [show zfx u t = 0 by omega] | rw [show zfx u t = 1 by omega])⟩ hP hS (show (zpg u + 1 - (t + 1)).toNat < (zpg u + 1 - t).toNat by omega) (lv_sub hl [1, 2, 0] rfl)
  · refine lv_aload_n hx hb dX1_digest_28 rfl (lv_at hl 0 rfl) ?_
    refine lv_aload_n hx hb dX1_digest_29 rfl (lv_at hl 0 rfl) ?_
    refine lv_iload_n hx hb dX1_digest_30 rfl (lv_at hl 2 rfl) ?_
    refine zV_l (As := [.int (iI t)]) (rest := [.ref (gM g 0)]) ⟨hx, hb, hml, hown, hts⟩ (PM g u (wh v hh)) (PM_blind g u (wh v hh)) (PM_mv hP hK) (rcM hK hP) (c_X1_pointNow l g u ((wh v hh)) t hI (by omega) (by omega)) (cwV 1 hts gX1_digest_X1_pointNow rfl rfl rfl (by decide +kernel) ⟨Nat.le_of_ble_eq_true rfl, Nat.le_of_ble_eq_true rfl⟩) rfl hl.1 rfl (Nat.le_of_ble_eq_true rfl) dX1_digest_31 ⟨Nat.zero_le _, Nat.zero_le _⟩ ?_
    refine zVw_v (As := [.long (jI (ptc u t))]) (rest := []) ⟨hx, hb, hml, hown, hts⟩ (PM g u (wh v hh)) (PM_blind g u (wh v hh)) (PM_mv hP hK) (rcM hK hP) (c_X1_mix l g u ((wh v hh)) hg (ptc u t)) (cwV 1 hts gX1_digest_X1_mix rfl rfl rfl (by decide +kernel) ⟨Nat.le_of_ble_eq_true rfl, Nat.le_of_ble_eq_true rfl⟩) rfl hl.1 rfl (Nat.le_of_ble_eq_true rfl) dX1_digest_34 ⟨Nat.zero_le _, Nat.zero_le _⟩ hS (fun _ h => h) (fun H locs hP hH1 hH2 hS => ?_)
    have hP : va_P (gD g) vwCl (wM g u (wh v (mx hh (ptc u t)))) H := hP
    refine lv_aload_n hx hb dX1_digest_37 rfl (lv_at hl 0 rfl) ?_
    refine lv_aload_n hx hb dX1_digest_38 rfl (lv_at hl 0 rfl) ?_
    refine lv_iload_n hx hb dX1_digest_39 rfl (lv_at hl 2 rfl) ?_
    refine zV_l (As := [.int (iI t)]) (rest := [.ref (gM g 0)]) ⟨hx, hb, hml, hown, hts⟩ (PM g u (wh v (mx hh (ptc u t)))) (PM_blind g u (wh v (mx hh (ptc u t)))) (PM_mv hP hK) (rcM hK hP) (c_X1_speedNow l g u ((wh v (mx hh (ptc u t)))) t hI (by omega) (by omega)) (cwV 1 hts gX1_digest_X1_speedNow rfl rfl rfl (by decide +kernel) ⟨Nat.le_of_ble_eq_true rfl, Nat.le_of_ble_eq_true rfl⟩) rfl hl.1 rfl (Nat.le_of_ble_eq_true rfl) dX1_digest_40 ⟨Nat.zero_le _, Nat.zero_le _⟩ ?_
    refine zVw_v (As := [.long (jI (spc u t))]) (rest := []) ⟨hx, hb, hml, hown, hts⟩ (PM g u (wh v (mx hh (ptc u t)))) (PM_blind g u (wh v (mx hh (ptc u t)))) (PM_mv hP hK) (rcM hK hP) (c_X1_mix l g u ((wh v (mx hh (ptc u t)))) hg (spc u t)) (cwV 1 hts gX1_digest_X1_mix rfl rfl rfl (by decide +kernel) ⟨Nat.le_of_ble_eq_true rfl, Nat.le_of_ble_eq_true rfl⟩) rfl hl.1 rfl (Nat.le_of_ble_eq_true rfl) dX1_digest_43 ⟨Nat.zero_le _, Nat.zero_le _⟩ hS (fun _ h => h) (fun H locs hP hH1 hH2 hS => ?_)
    have hP : va_P (gD g) vwCl (wM g u (wh v (mx (mx hh (ptc u t)) (spc u t)))) H := hP
    refine lv_aload_n hx hb dX1_digest_46 rfl (lv_at hl 0 rfl) ?_
    refine lv_aload_n hx hb dX1_digest_47 rfl (lv_at hl 0 rfl) ?_
    refine gf_X1_19 hx hb hts hin m19 hown hK hP dX1_digest_48 ?_
    refine lv_iload_n hx hb dX1_digest_51 rfl (lv_at hl 2 rfl) ?_
    refine al_X1_4 hx hb hK hP ⟨by omega, by omega⟩ dX1_digest_52 ?_
    have hv_10 := iv_le hI t
    refine z_i2l hx hb (by omega) dX1_digest_53 ?_
    refine zVw_v (As := [.long (jI (zle u t))]) (rest := []) ⟨hx, hb, hml, hown, hts⟩ (PM g u (wh v (mx (mx hh (ptc u t)) (spc u t)))) (PM_blind g u (wh v (mx (mx hh (ptc u t)) (spc u t)))) (PM_mv hP hK) (rcM hK hP) (c_X1_mix l g u ((wh v (mx (mx hh (ptc u t)) (spc u t)))) hg (zle u t)) (cwV 1 hts gX1_digest_X1_mix rfl rfl rfl (by decide +kernel) ⟨Nat.le_of_ble_eq_true rfl, Nat.le_of_ble_eq_true rfl⟩) rfl hl.1 rfl (Nat.le_of_ble_eq_true rfl) dX1_digest_54 ⟨Nat.zero_le _, Nat.zero_le _⟩ hS (fun _ h => h) (fun H locs hP hH1 hH2 hS => ?_)
    have hP : va_P (gD g) vwCl (wM g u (wh v (mx (mx (mx hh (ptc u t)) (spc u t)) (zle u t)))) H := hP
    refine lv_iload_n hx hb dX1_digest_57 rfl (lv_at hl 1 rfl) ?_
    refine z_if_ge (tgt := 74) hx hb dX1_digest_58 (by decide) (by omega) (fun c_11 => ?_) (fun c_11 => ?_)
    · refine lv_iload_n hx hb dX1_digest_74 rfl (lv_at hl 1 rfl) ?_
      refine lv_istore_n (lv' := [(1, .int (iI f)), (0, .ref (gM g 0)), (2, .int (iI t))]) hx hb dX1_digest_75 rfl hl (by decide) rfl (fun ls hl => ?_)
      refine z_iinc (k := 2) (lv' := [(2, .int (iI (t + 1))), (1, .int (iI f)), (0, .ref (gM g 0))]) hx hb dX1_digest_76 hl rfl (by decide) rfl (fun ls hl => ?_)
      refine lv_goto (tgt := 20) hx hb dX1_digest_79 (by decide) ?_
      exact ih_20 f (t + 1) (mx (mx (mx hh (ptc u t)) (spc u t)) (zle u t)) _ _ ls ⟨(by omega), (by rw [hs, ← q2z]; first | (rw [if_pos (by omega), if_neg (by omega)]; done) | (rw [if_pos (by omega), if_pos (by omega)]; omega) | (rw [if_neg (by omega)]; done)), (by rw [dgp_s q1z.1, ← q3z])⟩ hP hS (show (zpg u - (t + 1)).toNat < (zpg u - t).toNat by omega) (lv_sub hl [2, 1, 0] rfl)
    · refine lv_aload_n hx hb dX1_digest_61 rfl (lv_at hl 0 rfl) ?_
      refine gf_X1_22 hx hb hts hin m22 hown hK hP dX1_digest_62 ?_
      refine lv_iload_n hx hb dX1_digest_65 rfl (lv_at hl 2 rfl) ?_
      refine al_X1_5 hx hb hK hP ⟨by omega, by omega⟩ dX1_digest_66 ?_
      have hv_12 := iv_lo hI t
      refine z_if_eq (tgt := 74) hx hb dX1_digest_67 (by decide) (by omega) (fun c_13 => ?_) (fun c_13 => ?_)
      · refine lv_iload_n hx hb dX1_digest_74 rfl (lv_at hl 1 rfl) ?_
        refine lv_istore_n (lv' := [(1, .int (iI f)), (0, .ref (gM g 0)), (2, .int (iI t))]) hx hb dX1_digest_75 rfl hl (by decide) rfl (fun ls hl => ?_)
        refine z_iinc (k := 2) (lv' := [(2, .int (iI (t + 1))), (1, .int (iI f)), (0, .ref (gM g 0))]) hx hb dX1_digest_76 hl rfl (by decide) rfl (fun ls hl => ?_)
        refine lv_goto (tgt := 20) hx hb dX1_digest_79 (by decide) ?_
        exact ih_20 f (t + 1) (mx (mx (mx hh (ptc u t)) (spc u t)) (zle u t)) _ _ ls ⟨(by omega), (by rw [hs, ← q2z]; first | (rw [if_pos (by omega), if_neg (by omega)]; done) | (rw [if_pos (by omega), if_pos (by omega)]; omega) | (rw [if_neg (by omega)]; done)), (by rw [dgp_s q1z.1, ← q3z])⟩ hP hS (show (zpg u - (t + 1)).toNat < (zpg u - t).toNat by omega) (lv_sub hl [2, 1, 0] rfl)
      · refine lv_iload_n hx hb dX1_digest_70 rfl (lv_at hl 2 rfl) ?_
        refine lv_goto (tgt := 75) hx hb dX1_digest_71 (by decide) ?_
        refine lv_istore_n (lv' := [(1, .int (iI t)), (0, .ref (gM g 0)), (2, .int (iI t))]) hx hb dX1_digest_75 rfl hl (by decide) rfl (fun ls hl => ?_)
        refine z_iinc (k := 2) (lv' := [(2, .int (iI (t + 1))), (1, .int (iI t)), (0, .ref (gM g 0))]) hx hb dX1_digest_76 hl rfl (by decide) rfl (fun ls hl => ?_)
        refine lv_goto (tgt := 20) hx hb dX1_digest_79 (by decide) ?_
        exact ih_20 t (t + 1) (mx (mx (mx hh (ptc u t)) (spc u t)) (zle u t)) _ _ ls ⟨(by omega), (by rw [hs, ← q2z]; first | (rw [if_pos (by omega), if_neg (by omega)]; done) | (rw [if_pos (by omega), if_pos (by omega)]; omega) | (rw [if_neg (by omega)]; done)), (by rw [dgp_s q1z.1, ← q3z])⟩ hP hS (show (zpg u - (t + 1)).toNat < (zpg u - t).toNat by omega) (lv_sub hl [2, 1, 0] rfl)
